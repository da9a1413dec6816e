set_option maxHeartbeats 4000000 in
set_option maxRecDepth 100000 in
theorem t_nextHouse (l : Launch) (D : va_G) (cI cJ : ClassId) (sz : Nat) (mr : Nat → Nat) (mi : Nat → Int32) (mf : Nat → Nat → Int32) (mg : Nat → Nat → Int64)  (mv : Nat → Value) (h0 : 0 ≤ (mi 29).toInt ∧ (mi 29).toInt ≤ 10) (h1 : 0 ≤ (mi 37).toInt ∧ (mi 37).toInt ≤ 40) (h2 : 0 ≤ (mi 46).toInt ∧ (mi 46).toInt ≤ 10) (h3 : 0 ≤ (mi 21).toInt ∧ (mi 21).toInt ≤ 200) (h4 : 0 ≤ (mi 69).toInt ∧ (mi 69).toInt ≤ 200) (a_p_from : p9 (mf 33)) (a_p_to : p9 (mf 34)) (a_t_marks : m4 (mf 50)) : Met l yX10_nextHouse (Cond.code yX10_nextHouse cX10_nextHouse 6 (some .int) :: GW) ({ frames := 6, cells := 0, slots := 0, locals := 160 } : Room) (va_Pc [.ref (mr 0), .ref (mr 10)] (PW D cI cJ sz (WZ_VO cI cJ mv mr mi mf mg) xT)) (va_Qi (fun (r : Int32) (u : (Nat → Int32) × (Nat → Int32) × (Nat → Int32) × (Nat → Int32)) => True) (fun u => QW D cI cJ (va_A (WZ_VO cI cJ mv mr mi mf mg) sz) ((fun (u : (Nat → Int32) × (Nat → Int32) × (Nat → Int32) × (Nat → Int32)) => (WZ_VO cI cJ mv mr mi (va_up (va_up (va_up (va_up mf 6 u.1) 38 u.2.1) 39 u.2.2.1) 52 u.2.2.2) mg)) u)) (va_A (WZ_VO cI cJ mv mr mi mf mg) sz)) 0 0 (va_A (WZ_VO cI cJ mv mr mi mf mg) sz) := by
  refine mk_met (y := yX10_nextHouse) (bytes := cX10_nextHouse) (maxL := 6) (avs := [.ref (mr 0), .ref (mr 10)]) (WS := (WZ_VO cI cJ mv mr mi mf mg)) (Qf := fun A => va_Qi (fun (r : Int32) (u : (Nat → Int32) × (Nat → Int32) × (Nat → Int32) × (Nat → Int32)) => True) (fun u => QW D cI cJ A ((fun (u : (Nat → Int32) × (Nat → Int32) × (Nat → Int32) × (Nat → Int32)) => (WZ_VO cI cJ mv mr mi (va_up (va_up (va_up (va_up mf 6 u.1) 38 u.2.1) 39 u.2.2.1) 52 u.2.2.2) mg)) u)) A) (by decide) (Nat.le_of_ble_eq_true rfl) ?_
  intro p e s m below meth c A ls E hr hlk hnm hX hw1 hl2
  have hl3 : lv_has ls 6 [(0, .ref (mr 0)), (1, .ref (mr 10))] := hl2
  refine lv_aload_n (pc := 0) E.1 E.2.1 dX10_nextHouse_0 rfl (lv_at hl3 1 rfl) ?_
  refine x_get (pc := 1) (T := TX4) (N := 12) (ci := 4) (v := .int (mi 21)) E hw1 inX4 6 10 q_230 rfl rfl (by decide) rfl rfl dX10_nextHouse_1 ?_
  refine lv_aload_n (pc := 4) E.1 E.2.1 dX10_nextHouse_4 rfl (lv_at hl3 0 rfl) ?_
  refine x_get (pc := 5) (T := TX10) (N := 17) (ci := 10) (v := .ref (mr 67)) E hw1 inX10 0 6 q_474 rfl rfl (by decide) rfl rfl dX10_nextHouse_5 ?_
  refine x_get (pc := 8) (T := TX7) (N := 5) (ci := 7) (v := .int (mi 69)) E hw1 inX7 43 1 q_423 rfl rfl (by decide) rfl rfl dX10_nextHouse_8 ?_
  refine lv_icmp_ge (pc := 11) (tgt := 67) E.1 E.2.1 dX10_nextHouse_11 (by decide) (fun c_4 => ?_) (fun c_4 => ?_)
  · skip
    have hc_4 := leE (a := (mi 69).toInt) (b := (mi 21).toInt) rfl rfl c_4
    refine lv_iconst (pc := 67) (v := (-1)) E.1 E.2.1 dX10_nextHouse_67 (by decide +kernel) ?_
    refine lv_istore_n (pc := 68) (lv' := [(2, .int (-1)), (0, .ref (mr 0)), (1, .ref (mr 10))]) E.1 E.2.1 dX10_nextHouse_68 rfl hl3 (by decide) rfl (fun ls hl5 => ?_)
    refine lv_iconst (pc := 69) (v := 0) E.1 E.2.1 dX10_nextHouse_69 (by decide +kernel) ?_
    refine lv_istore_n (pc := 70) (lv' := [(3, .int 0), (2, .int (-1)), (0, .ref (mr 0)), (1, .ref (mr 10))]) E.1 E.2.1 dX10_nextHouse_70 rfl hl5 (by decide) rfl (fun ls hl6 => ?_)
    refine lv_iconst (pc := 71) (v := 0) E.1 E.2.1 dX10_nextHouse_71 (by decide +kernel) ?_
    refine lv_istore (pc := 72) (lv' := [(4, .int 0), (3, .int 0), (2, .int (-1)), (0, .ref (mr 0)), (1, .ref (mr 10))]) E.1 E.2.1 dX10_nextHouse_72 hl6 (by decide) rfl (fun ls hl7 => ?_)
    have loop_8 : ∀ (k : Nat) (x_9 : Int32) (x_10 : Int32) (x_11 : Int32) (g_12 : Nat → Int32) (g_13 : Nat → Int32) (g_14 : Nat → Int32) (g_15 : Nat → Int32) (H : Heap) (locs : List Loc) (ls : Array Slot), (0 ≤ x_9.toInt) ∧ (x_9.toInt ≤ (mi 29).toInt) → (mi 29).toInt - x_9.toInt < (k : Int) → WD D A s.heap (WZ_VO cI cJ mv mr mi (va_up (va_up (va_up (va_up mf 6 g_12) 38 g_13) 39 g_14) 52 g_15) mg) H locs → lv_has ls 6 [(4, .int x_9), (3, .int x_11), (2, .int x_10), (0, .ref (mr 0)), (1, .ref (mr 10))] → W p l e ({ frames := 6, cells := 0, slots := 0, locals := 160 } : Room) s m ([.ref (mr 0), .ref (mr 10)] : List Value).toArray below meth c H locs 0 0 (MQ below (va_Qi (fun (r : Int32) (u : (Nat → Int32) × (Nat → Int32) × (Nat → Int32) × (Nat → Int32)) => True) (fun u => QW D cI cJ A ((fun (u : (Nat → Int32) × (Nat → Int32) × (Nat → Int32) × (Nat → Int32)) => (WZ_VO cI cJ mv mr mi (va_up (va_up (va_up (va_up mf 6 u.1) 38 u.2.1) 39 u.2.2.1) 52 u.2.2.2) mg)) u)) A) ([.ref (mr 0), .ref (mr 10)] : List Value).toArray s 0 0 A) (F0 m 74 ls []) := by
      intro k
      induction k with
      | zero =>
        intro x_9 x_10 x_11 g_12 g_13 g_14 g_15 _ _ _ hinv hm
        obtain ⟨hi_15_0, hi_15_1⟩ := hinv
        exact absurd hm (by omega)
      | succ k ih_16 =>
        intro x_9 x_10 x_11 g_12 g_13 g_14 g_15 H locs ls hinv hm hw17 hl18
        obtain ⟨hi_15_0, hi_15_1⟩ := hinv
        refine lv_iload (pc := 74) E.1 E.2.1 dX10_nextHouse_74 (lv_at hl18 0 rfl) ?_
        refine lv_aload_n (pc := 76) E.1 E.2.1 dX10_nextHouse_76 rfl (lv_at hl18 3 rfl) ?_
        refine x_get (pc := 77) (T := TX10) (N := 17) (ci := 10) (v := .ref (mr 23)) E hw17 inX10 0 1 q_460 rfl rfl (by decide) rfl rfl dX10_nextHouse_77 ?_
        refine x_get (pc := 80) (T := TX1) (N := 9) (ci := 1) (v := .int (mi 29)) E hw17 inX1 12 5 q_283 rfl rfl (by decide) rfl rfl dX10_nextHouse_80 ?_
        refine lv_icmp_ge (pc := 83) (tgt := 135) E.1 E.2.1 dX10_nextHouse_83 (by decide) (fun c_19 => ?_) (fun c_19 => ?_)
        · skip
          have hc_19 := leE (a := (mi 29).toInt) (b := x_9.toInt) rfl rfl c_19
          refine lv_iload_n (pc := 135) E.1 E.2.1 dX10_nextHouse_135 rfl (lv_at hl18 2 rfl) ?_
          exact em_i (w1 := (fun (u : (Nat → Int32) × (Nat → Int32) × (Nat → Int32) × (Nat → Int32)) => (WZ_VO cI cJ mv mr mi (va_up (va_up (va_up (va_up mf 6 u.1) 38 u.2.1) 39 u.2.2.1) 52 u.2.2.2) mg))) E hr hlk (g_12, g_13, g_14, g_15) hw17 trivial (Nat.le_of_ble_eq_true rfl) (Nat.le_of_ble_eq_true rfl) dX10_nextHouse_136
        · skip
          have hc_19 := nleE (a := (mi 29).toInt) (b := x_9.toInt) rfl rfl c_19
          refine lv_aload_n (pc := 86) E.1 E.2.1 dX10_nextHouse_86 rfl (lv_at hl18 3 rfl) ?_
          refine lv_aload_n (pc := 87) E.1 E.2.1 dX10_nextHouse_87 rfl (lv_at hl18 4 rfl) ?_
          refine x_get (pc := 88) (T := TX4) (N := 12) (ci := 4) (v := .int (mi 17)) E hw17 inX4 6 6 q_215 rfl rfl (by decide) rfl rfl dX10_nextHouse_88 ?_
          refine lv_iload (pc := 91) E.1 E.2.1 dX10_nextHouse_91 (lv_at hl18 0 rfl) ?_
          refine lv_aload_n (pc := 93) E.1 E.2.1 dX10_nextHouse_93 rfl (lv_at hl18 4 rfl) ?_
          refine x_get (pc := 94) (T := TX4) (N := 12) (ci := 4) (v := .int (mi 19)) E hw17 inX4 6 8 q_223 rfl rfl (by decide) rfl rfl dX10_nextHouse_94 ?_
          refine ck_i (pc := 97) (ws' := (fun (u : (Nat → Int32) × (Nat → Int32)) => (WZ_VO cI cJ mv mr mi (va_up (va_up (va_up (va_up mf 6 g_12) 38 u.1) 39 u.2) 52 g_15) mg))) [true, true, true, true, true, true, true, true, true, true, true, true, true, true, true, true, true, true, true, true, true, true, true, true, true, true, true, true, true, true, true, true, true, true, true, true, true, true, true, true, true, true, true, true, true, true, true, true, true, true] hw17 rfl (fun hC_ => (rn_V (As := [.int (mi 17), .int x_9, .int (mi 19)]) (rest := []) E hw17 (t_isReached l D cI cJ _ mr mi (va_up (va_up (va_up (va_up mf 6 g_12) 38 g_13) 39 g_14) 52 g_15) mg (mi 17) x_9 (mi 19) (vl [mv 0]) h0 h1 h2 a_p_from a_p_to) (gdV q_1012 q_1013 q_1014 q_152 q_1015) hdV_X10_isReached ⟨rfl, rfl⟩ ⟨(Nat.le_of_ble_eq_true rfl), (Nat.le_of_ble_eq_true rfl)⟩ ⟨(Nat.le_of_ble_eq_true rfl), (Nat.le_of_ble_eq_true rfl)⟩ xT_b xT_at 0 10 rfl rfl rfl _ hC_ (nd_T _ 0) rfl hl18.1 rfl (Nat.le_of_ble_eq_true rfl) dX10_nextHouse_97)) rfl (fun _ => rfl) (fun _ => rfl) (fun r_21 u_20 H1 locs hp hw22 => ?_)
          obtain ⟨gpmeasured_23, gpmeasuredIn_24⟩ := u_20
          generalize H1 = H at hw22 ⊢
          have hw25 : WD D A s.heap (WZ_VO cI cJ mv mr mi (va_up (va_up (va_up (va_up mf 6 g_12) 38 gpmeasured_23) 39 gpmeasuredIn_24) 52 g_15) mg) H locs := hw22
          obtain ⟨hp_26, hp_27⟩ := hp
          have hp_26 : 0 ≤ r_21.toInt := hp_26
          have hp_27 : r_21.toInt ≤ 1 := hp_27
          refine lv_if_eq (pc := 100) (tgt := 129) E.1 E.2.1 dX10_nextHouse_100 (by decide) (fun c_28 => ?_) (fun c_28 => ?_)
          · skip
            have hc_28 := eqE (a := r_21.toInt) (b := 0) rfl (by decide +kernel) c_28
            obtain ⟨v_29, ev_29⟩ : ∃ z : Int32, x_9 + Int32.ofInt (1) = z := ⟨_, rfl⟩
            have hv_29 : v_29.toInt = x_9.toInt + (1) := by rw [← ev_29]; exact incE rfl (by decide) (by omega)
            refine lv_iinc (pc := 129) (v := v_29) (lv' := [(4, .int v_29), (3, .int x_11), (2, .int x_10), (0, .ref (mr 0)), (1, .ref (mr 10))]) E.1 E.2.1 dX10_nextHouse_129 hl18 (k := 0) rfl ev_29 (by decide) rfl (fun ls hl30 => ?_)
            refine lv_goto (pc := 132) (tgt := 74) E.1 E.2.1 dX10_nextHouse_132 (by decide) ?_
            exact ih_16 v_29 x_10 x_11 g_12 gpmeasured_23 gpmeasuredIn_24 g_15 _ _ _ ⟨(by show 0 ≤ v_29.toInt; omega), (by show v_29.toInt ≤ (mi 29).toInt; omega)⟩ (by omega) hw25 (lv_sub hl30 [0, 1, 2, 3, 4] rfl)
          · skip
            have hc_28 := neE (a := r_21.toInt) (b := 0) rfl (by decide +kernel) c_28
            refine lv_aload_n (pc := 103) E.1 E.2.1 dX10_nextHouse_103 rfl (lv_at hl18 3 rfl) ?_
            refine lv_aload_n (pc := 104) E.1 E.2.1 dX10_nextHouse_104 rfl (lv_at hl18 4 rfl) ?_
            refine lv_iload (pc := 105) E.1 E.2.1 dX10_nextHouse_105 (lv_at hl18 0 rfl) ?_
            refine ck_i (pc := 107) (ws' := (fun (u : (Nat → Int32) × (Nat → Int32) × (Nat → Int32) × (Nat → Int32)) => (WZ_VO cI cJ mv mr mi (va_up (va_up (va_up (va_up mf 6 u.1) 38 u.2.1) 39 u.2.2.1) 52 u.2.2.2) mg))) [true, true, true, true, true, true, true, true, true, true, true, true, true, true, true, true, true, true, true, true, true, true, true, true, true, true, true, true, true, true, true, true, true, true, true, true, true, true, true, true, true, true, true, true, true, true, true, true, true, true] hw25 rfl (fun hC_ => (rn_V (As := [.ref (mr 10), .int x_9]) (rest := []) E hw25 (t_turnsOf l D cI cJ _ mr mi (va_up (va_up (va_up (va_up mf 6 g_12) 38 gpmeasured_23) 39 gpmeasuredIn_24) 52 g_15) mg x_9 (vl [mv 0]) h0 h1 h2 (by show 0 ≤ x_9.toInt ∧ x_9.toInt ≤ 9; omega) a_p_from a_p_to a_t_marks) (gdV q_1028 q_1029 q_1030 q_152 q_1031) hdV_X10_turnsOf ⟨rfl, rfl⟩ ⟨(Nat.le_of_ble_eq_true rfl), (Nat.le_of_ble_eq_true rfl)⟩ ⟨(Nat.le_of_ble_eq_true rfl), (Nat.le_of_ble_eq_true rfl)⟩ xT_b xT_at 0 10 rfl rfl rfl _ hC_ (nd_T _ 0) rfl hl18.1 rfl (Nat.le_of_ble_eq_true rfl) dX10_nextHouse_107)) rfl (fun _ => rfl) (fun _ => rfl) (fun r_32 u_31 H1 locs hp hw33 => ?_)
            obtain ⟨greadings_34, gpmeasured_35, gpmeasuredIn_36, gtstack_37⟩ := u_31
            generalize H1 = H at hw33 ⊢
            have hw38 : WD D A s.heap (WZ_VO cI cJ mv mr mi (va_up (va_up (va_up (va_up mf 6 greadings_34) 38 gpmeasured_35) 39 gpmeasuredIn_36) 52 gtstack_37) mg) H locs := hw33
            refine lv_istore (pc := 110) (lv' := [(5, .int r_32), (4, .int x_9), (3, .int x_11), (2, .int x_10), (0, .ref (mr 0)), (1, .ref (mr 10))]) E.1 E.2.1 dX10_nextHouse_110 hl18 (by decide) rfl (fun ls hl39 => ?_)
            refine lv_iload_n (pc := 112) E.1 E.2.1 dX10_nextHouse_112 rfl (lv_at hl39 3 rfl) ?_
            refine lv_iconst (pc := 113) (v := (-1)) E.1 E.2.1 dX10_nextHouse_113 (by decide +kernel) ?_
            refine lv_icmp_eq (pc := 114) (tgt := 123) E.1 E.2.1 dX10_nextHouse_114 (by decide) (fun c_40 => ?_) (fun c_40 => ?_)
            · skip
              have hc_40 := eqE (a := x_10.toInt) (b := (-1)) rfl (by decide +kernel) c_40
              refine lv_iload (pc := 123) E.1 E.2.1 dX10_nextHouse_123 (lv_at hl39 1 rfl) ?_
              refine lv_istore_n (pc := 125) (lv' := [(2, .int x_9), (5, .int r_32), (4, .int x_9), (3, .int x_11), (0, .ref (mr 0)), (1, .ref (mr 10))]) E.1 E.2.1 dX10_nextHouse_125 rfl hl39 (by decide) rfl (fun ls hl41 => ?_)
              refine lv_iload (pc := 126) E.1 E.2.1 dX10_nextHouse_126 (lv_at hl41 1 rfl) ?_
              refine lv_istore_n (pc := 128) (lv' := [(3, .int r_32), (2, .int x_9), (5, .int r_32), (4, .int x_9), (0, .ref (mr 0)), (1, .ref (mr 10))]) E.1 E.2.1 dX10_nextHouse_128 rfl hl41 (by decide) rfl (fun ls hl42 => ?_)
              obtain ⟨v_43, ev_43⟩ : ∃ z : Int32, x_9 + Int32.ofInt (1) = z := ⟨_, rfl⟩
              have hv_43 : v_43.toInt = x_9.toInt + (1) := by rw [← ev_43]; exact incE rfl (by decide) (by omega)
              refine lv_iinc (pc := 129) (v := v_43) (lv' := [(4, .int v_43), (3, .int r_32), (2, .int x_9), (5, .int r_32), (0, .ref (mr 0)), (1, .ref (mr 10))]) E.1 E.2.1 dX10_nextHouse_129 hl42 (k := 3) rfl ev_43 (by decide) rfl (fun ls hl44 => ?_)
              refine lv_goto (pc := 132) (tgt := 74) E.1 E.2.1 dX10_nextHouse_132 (by decide) ?_
              exact ih_16 v_43 x_9 r_32 greadings_34 gpmeasured_35 gpmeasuredIn_36 gtstack_37 _ _ _ ⟨(by show 0 ≤ v_43.toInt; omega), (by show v_43.toInt ≤ (mi 29).toInt; omega)⟩ (by omega) hw38 (lv_sub hl44 [0, 1, 2, 4, 5] rfl)
            · skip
              have hc_40 := neE (a := x_10.toInt) (b := (-1)) rfl (by decide +kernel) c_40
              refine lv_iload (pc := 117) E.1 E.2.1 dX10_nextHouse_117 (lv_at hl39 0 rfl) ?_
              refine lv_iload_n (pc := 119) E.1 E.2.1 dX10_nextHouse_119 rfl (lv_at hl39 2 rfl) ?_
              refine lv_icmp_le (pc := 120) (tgt := 129) E.1 E.2.1 dX10_nextHouse_120 (by decide) (fun c_45 => ?_) (fun c_45 => ?_)
              · skip
                have hc_45 := leE (a := r_32.toInt) (b := x_11.toInt) rfl rfl c_45
                obtain ⟨v_46, ev_46⟩ : ∃ z : Int32, x_9 + Int32.ofInt (1) = z := ⟨_, rfl⟩
                have hv_46 : v_46.toInt = x_9.toInt + (1) := by rw [← ev_46]; exact incE rfl (by decide) (by omega)
                refine lv_iinc (pc := 129) (v := v_46) (lv' := [(4, .int v_46), (5, .int r_32), (3, .int x_11), (2, .int x_10), (0, .ref (mr 0)), (1, .ref (mr 10))]) E.1 E.2.1 dX10_nextHouse_129 hl39 (k := 1) rfl ev_46 (by decide) rfl (fun ls hl47 => ?_)
                refine lv_goto (pc := 132) (tgt := 74) E.1 E.2.1 dX10_nextHouse_132 (by decide) ?_
                exact ih_16 v_46 x_10 x_11 greadings_34 gpmeasured_35 gpmeasuredIn_36 gtstack_37 _ _ _ ⟨(by show 0 ≤ v_46.toInt; omega), (by show v_46.toInt ≤ (mi 29).toInt; omega)⟩ (by omega) hw38 (lv_sub hl47 [0, 2, 3, 4, 5] rfl)
              · skip
                have hc_45 := nleE (a := r_32.toInt) (b := x_11.toInt) rfl rfl c_45
                refine lv_iload (pc := 123) E.1 E.2.1 dX10_nextHouse_123 (lv_at hl39 1 rfl) ?_
                refine lv_istore_n (pc := 125) (lv' := [(2, .int x_9), (5, .int r_32), (4, .int x_9), (3, .int x_11), (0, .ref (mr 0)), (1, .ref (mr 10))]) E.1 E.2.1 dX10_nextHouse_125 rfl hl39 (by decide) rfl (fun ls hl48 => ?_)
                refine lv_iload (pc := 126) E.1 E.2.1 dX10_nextHouse_126 (lv_at hl48 1 rfl) ?_
                refine lv_istore_n (pc := 128) (lv' := [(3, .int r_32), (2, .int x_9), (5, .int r_32), (4, .int x_9), (0, .ref (mr 0)), (1, .ref (mr 10))]) E.1 E.2.1 dX10_nextHouse_128 rfl hl48 (by decide) rfl (fun ls hl49 => ?_)
                obtain ⟨v_50, ev_50⟩ : ∃ z : Int32, x_9 + Int32.ofInt (1) = z := ⟨_, rfl⟩
                have hv_50 : v_50.toInt = x_9.toInt + (1) := by rw [← ev_50]; exact incE rfl (by decide) (by omega)
                refine lv_iinc (pc := 129) (v := v_50) (lv' := [(4, .int v_50), (3, .int r_32), (2, .int x_9), (5, .int r_32), (0, .ref (mr 0)), (1, .ref (mr 10))]) E.1 E.2.1 dX10_nextHouse_129 hl49 (k := 3) rfl ev_50 (by decide) rfl (fun ls hl51 => ?_)
                refine lv_goto (pc := 132) (tgt := 74) E.1 E.2.1 dX10_nextHouse_132 (by decide) ?_
                exact ih_16 v_50 x_9 r_32 greadings_34 gpmeasured_35 gpmeasuredIn_36 gtstack_37 _ _ _ ⟨(by show 0 ≤ v_50.toInt; omega), (by show v_50.toInt ≤ (mi 29).toInt; omega)⟩ (by omega) hw38 (lv_sub hl51 [0, 1, 2, 4, 5] rfl)
    exact loop_8 (Int.toNat ((mi 29).toInt - 0) + 1) 0 (-1) 0 (mf 6) (mf 38) (mf 39) (mf 52) _ _ _ ⟨(by show 0 ≤ (0 : Int32).toInt; have k_0 : (0 : Int32).toInt = 0 := (by decide +kernel); omega), (by show (0 : Int32).toInt ≤ (mi 29).toInt; have k_0 : (0 : Int32).toInt = 0 := (by decide +kernel); omega)⟩ (by have k_0 : (0 : Int32).toInt = 0 := (by decide +kernel); have k_1 : ((-1) : Int32).toInt = -1 := (by decide +kernel); have k_2 : (0 : Int32).toInt = 0 := (by decide +kernel); omega) hw1 (lv_sub hl7 [0, 1, 2, 3, 4] rfl)
  · skip
    have hc_4 := nleE (a := (mi 69).toInt) (b := (mi 21).toInt) rfl rfl c_4
    refine lv_aload_n (pc := 14) E.1 E.2.1 dX10_nextHouse_14 rfl (lv_at hl3 1 rfl) ?_
    refine x_get (pc := 15) (T := TX4) (N := 12) (ci := 4) (v := .int (mi 21)) E hw1 inX4 6 10 q_230 rfl rfl (by decide) rfl rfl dX10_nextHouse_15 ?_
    refine lv_sipush (pc := 18) (v := 200) E.1 E.2.1 dX10_nextHouse_18 (by decide +kernel) ?_
    refine lv_icmp_ge (pc := 21) (tgt := 67) E.1 E.2.1 dX10_nextHouse_21 (by decide) (fun c_52 => absurd c_52 (mnleE (a := 200) (b := (mi 21).toInt) (by decide +kernel) rfl (by omega))) (fun _ => ?_)
    refine lv_aload_n (pc := 24) E.1 E.2.1 dX10_nextHouse_24 rfl (lv_at hl3 0 rfl) ?_
    refine x_get (pc := 25) (T := TX10) (N := 17) (ci := 10) (v := .ref (mr 67)) E hw1 inX10 0 6 q_474 rfl rfl (by decide) rfl rfl dX10_nextHouse_25 ?_
    refine x_get (pc := 28) (T := TX7) (N := 5) (ci := 7) (v := .ref (mr 68)) E hw1 inX7 43 0 q_420 rfl rfl (by decide) rfl rfl dX10_nextHouse_28 ?_
    refine lv_aload_n (pc := 31) E.1 E.2.1 dX10_nextHouse_31 rfl (lv_at hl3 1 rfl) ?_
    refine x_get (pc := 32) (T := TX4) (N := 12) (ci := 4) (v := .int (mi 21)) E hw1 inX4 6 10 q_230 rfl rfl (by decide) rfl rfl dX10_nextHouse_32 ?_
    refine x_iald (pc := 35) (f := (mf 68)) E hw1 44 rfl (inbE (a := (mi 21).toInt) rfl (by omega)) dX10_nextHouse_35 ?_
    refine lv_topi (fun v_53 ev_53 => ?_)
    refine lv_istore_n (pc := 36) (lv' := [(2, .int v_53), (0, .ref (mr 0)), (1, .ref (mr 10))]) E.1 E.2.1 dX10_nextHouse_36 rfl hl3 (by decide) rfl (fun ls hl54 => ?_)
    refine lv_iload_n (pc := 37) E.1 E.2.1 dX10_nextHouse_37 rfl (lv_at hl54 0 rfl) ?_
    refine lv_iconst (pc := 38) (v := (-1)) E.1 E.2.1 dX10_nextHouse_38 (by decide +kernel) ?_
    refine lv_icmp_eq (pc := 39) (tgt := 62) E.1 E.2.1 dX10_nextHouse_39 (by decide) (fun c_55 => ?_) (fun c_55 => ?_)
    · skip
      have hc_55 := eqE (a := v_53.toInt) (b := (-1)) rfl (by decide +kernel) c_55
      refine lv_aload_n (pc := 62) E.1 E.2.1 dX10_nextHouse_62 rfl (lv_at hl54 2 rfl) ?_
      refine x_get (pc := 63) (T := TX4) (N := 12) (ci := 4) (v := .int (mi 17)) E hw1 inX4 6 6 q_215 rfl rfl (by decide) rfl rfl dX10_nextHouse_63 ?_
      exact em_i (w1 := (fun (u : (Nat → Int32) × (Nat → Int32) × (Nat → Int32) × (Nat → Int32)) => (WZ_VO cI cJ mv mr mi (va_up (va_up (va_up (va_up mf 6 u.1) 38 u.2.1) 39 u.2.2.1) 52 u.2.2.2) mg))) E hr hlk ((mf 6), (mf 38), (mf 39), (mf 52)) hw1 trivial (Nat.le_of_ble_eq_true rfl) (Nat.le_of_ble_eq_true rfl) dX10_nextHouse_66
    · skip
      have hc_55 := neE (a := v_53.toInt) (b := (-1)) rfl (by decide +kernel) c_55
      refine lv_aload_n (pc := 42) E.1 E.2.1 dX10_nextHouse_42 rfl (lv_at hl54 1 rfl) ?_
      refine lv_aload_n (pc := 43) E.1 E.2.1 dX10_nextHouse_43 rfl (lv_at hl54 2 rfl) ?_
      refine x_get (pc := 44) (T := TX4) (N := 12) (ci := 4) (v := .int (mi 17)) E hw1 inX4 6 6 q_215 rfl rfl (by decide) rfl rfl dX10_nextHouse_44 ?_
      refine lv_iload_n (pc := 47) E.1 E.2.1 dX10_nextHouse_47 rfl (lv_at hl54 0 rfl) ?_
      refine lv_aload_n (pc := 48) E.1 E.2.1 dX10_nextHouse_48 rfl (lv_at hl54 2 rfl) ?_
      refine x_get (pc := 49) (T := TX4) (N := 12) (ci := 4) (v := .int (mi 19)) E hw1 inX4 6 8 q_223 rfl rfl (by decide) rfl rfl dX10_nextHouse_49 ?_
      refine ck_i (pc := 52) (ws' := (fun (u : (Nat → Int32) × (Nat → Int32)) => (WZ_VO cI cJ mv mr mi (va_up (va_up mf 38 u.1) 39 u.2) mg))) [true, true, true, true, true, true, true, true, true, true, true, true, true, true, true, true, true, true, true, true, true, true, true, true, true, true, true, true, true, true, true, true, true, true, true, true, true, true, true, true, true, true, true, true, true, true, true, true, true, true] hw1 rfl (fun hC_ => (rn_V (As := [.int (mi 17), .int v_53, .int (mi 19)]) (rest := []) E hw1 (t_isReached l D cI cJ _ mr mi mf mg (mi 17) v_53 (mi 19) (vl [mv 0]) h0 h1 h2 a_p_from a_p_to) (gdV q_1012 q_1013 q_1014 q_152 q_1015) hdV_X10_isReached ⟨rfl, rfl⟩ ⟨(Nat.le_of_ble_eq_true rfl), (Nat.le_of_ble_eq_true rfl)⟩ ⟨(Nat.le_of_ble_eq_true rfl), (Nat.le_of_ble_eq_true rfl)⟩ xT_b xT_at 0 10 rfl rfl rfl _ hC_ (nd_T _ 0) rfl hl54.1 rfl (Nat.le_of_ble_eq_true rfl) dX10_nextHouse_52)) rfl (fun _ => rfl) (fun _ => rfl) (fun r_57 u_56 H1 locs hp hw58 => ?_)
      obtain ⟨gpmeasured_59, gpmeasuredIn_60⟩ := u_56
      generalize H1 = H at hw58 ⊢
      have hw61 : WD D A s.heap (WZ_VO cI cJ mv mr mi (va_up (va_up mf 38 gpmeasured_59) 39 gpmeasuredIn_60) mg) H locs := hw58
      obtain ⟨hp_62, hp_63⟩ := hp
      have hp_62 : 0 ≤ r_57.toInt := hp_62
      have hp_63 : r_57.toInt ≤ 1 := hp_63
      refine lv_if_eq (pc := 55) (tgt := 62) E.1 E.2.1 dX10_nextHouse_55 (by decide) (fun c_64 => ?_) (fun c_64 => ?_)
      · skip
        have hc_64 := eqE (a := r_57.toInt) (b := 0) rfl (by decide +kernel) c_64
        refine lv_aload_n (pc := 62) E.1 E.2.1 dX10_nextHouse_62 rfl (lv_at hl54 2 rfl) ?_
        refine x_get (pc := 63) (T := TX4) (N := 12) (ci := 4) (v := .int (mi 17)) E hw61 inX4 6 6 q_215 rfl rfl (by decide) rfl rfl dX10_nextHouse_63 ?_
        exact em_i (w1 := (fun (u : (Nat → Int32) × (Nat → Int32) × (Nat → Int32) × (Nat → Int32)) => (WZ_VO cI cJ mv mr mi (va_up (va_up (va_up (va_up mf 6 u.1) 38 u.2.1) 39 u.2.2.1) 52 u.2.2.2) mg))) E hr hlk ((mf 6), gpmeasured_59, gpmeasuredIn_60, (mf 52)) hw61 trivial (Nat.le_of_ble_eq_true rfl) (Nat.le_of_ble_eq_true rfl) dX10_nextHouse_66
      · skip
        have hc_64 := neE (a := r_57.toInt) (b := 0) rfl (by decide +kernel) c_64
        refine lv_iload_n (pc := 58) E.1 E.2.1 dX10_nextHouse_58 rfl (lv_at hl54 0 rfl) ?_
        refine lv_goto (pc := 59) (tgt := 66) E.1 E.2.1 dX10_nextHouse_59 (by decide) ?_
        exact em_i (w1 := (fun (u : (Nat → Int32) × (Nat → Int32) × (Nat → Int32) × (Nat → Int32)) => (WZ_VO cI cJ mv mr mi (va_up (va_up (va_up (va_up mf 6 u.1) 38 u.2.1) 39 u.2.2.1) 52 u.2.2.2) mg))) E hr hlk ((mf 6), gpmeasured_59, gpmeasuredIn_60, (mf 52)) hw61 trivial (Nat.le_of_ble_eq_true rfl) (Nat.le_of_ble_eq_true rfl) dX10_nextHouse_66
set_option maxHeartbeats 4000000 in
set_option maxRecDepth 100000 in
theorem t_light (l : Launch) (D : va_G) (cI cJ : ClassId) (sz : Nat) (mr : Nat → Nat) (mi : Nat → Int32) (mf : Nat → Nat → Int32) (mg : Nat → Nat → Int64) (z_h : Int32) (mv : Nat → Value) (h0 : 0 ≤ (mi 29).toInt ∧ (mi 29).toInt ≤ 10) (h1 : 0 ≤ (mi 37).toInt ∧ (mi 37).toInt ≤ 40) (h2 : 0 ≤ (mi 46).toInt ∧ (mi 46).toInt ≤ 10) (h3 : 0 ≤ z_h.toInt ∧ z_h.toInt ≤ 9) : Met l yX10_light (Cond.code yX10_light cX10_light 7 (some .int) :: GW) ({ frames := 2, cells := 0, slots := 0, locals := 63 } : Room) (va_Pc [.ref (mr 0), .ref (mr 10), .int z_h] (PW D cI cJ sz (WZ_VO cI cJ mv mr mi mf mg) xT)) (va_Qi (fun (r : Int32) (u : (Nat → Int32) × (Nat → Int32) × (Nat → Int32) × (Nat → Int32)) => True) (fun u => QW D cI cJ (va_A (WZ_VO cI cJ mv mr mi mf mg) sz) ((fun (u : (Nat → Int32) × (Nat → Int32) × (Nat → Int32) × (Nat → Int32)) => (WZ_VO cI cJ mv mr mi (va_up (va_up (va_up (va_up mf 15 u.1) 13 u.2.1) 14 u.2.2.1) 12 u.2.2.2) mg)) u)) (va_A (WZ_VO cI cJ mv mr mi mf mg) sz)) 0 0 (va_A (WZ_VO cI cJ mv mr mi mf mg) sz) := by
  refine mk_met (y := yX10_light) (bytes := cX10_light) (maxL := 7) (avs := [.ref (mr 0), .ref (mr 10), .int z_h]) (WS := (WZ_VO cI cJ mv mr mi mf mg)) (Qf := fun A => va_Qi (fun (r : Int32) (u : (Nat → Int32) × (Nat → Int32) × (Nat → Int32) × (Nat → Int32)) => True) (fun u => QW D cI cJ A ((fun (u : (Nat → Int32) × (Nat → Int32) × (Nat → Int32) × (Nat → Int32)) => (WZ_VO cI cJ mv mr mi (va_up (va_up (va_up (va_up mf 15 u.1) 13 u.2.1) 14 u.2.2.1) 12 u.2.2.2) mg)) u)) A) (by decide) (Nat.le_of_ble_eq_true rfl) ?_
  intro p e s m below meth c A ls E hr hlk hnm hX hw1 hl2
  have hl3 : lv_has ls 7 [(0, .ref (mr 0)), (1, .ref (mr 10)), (2, .int z_h)] := hl2
  refine lv_aload_n (pc := 0) E.1 E.2.1 dX10_light_0 rfl (lv_at hl3 1 rfl) ?_
  refine lv_iload_n (pc := 1) E.1 E.2.1 dX10_light_1 rfl (lv_at hl3 2 rfl) ?_
  refine ck_i (pc := 2) (ws' := (fun (u : Unit) => (WZ_VO cI cJ mv mr mi mf mg))) [false, false, false, false, false, false, true, true, true, true, true, true, false, false, false, false, false, false, false, false, false, false, false, false, false, false, false, false, false, false, false, false, false, false, false, false, false, false, false, false, false, false, false, false, false, false, false, false, false, false] hw1 rfl (fun hC_ => (rn_V (As := [.int z_h]) (rest := []) E hw1 (t_wasLitAhead l D cI cJ _ (shf 10 mr) (shf 10 mi) (shf 10 mf) (shf 10 mg) z_h h3) (gdV q_1073 q_1074 q_1075 q_153 q_1076) hdV_X4_wasLitAhead ⟨rfl, rfl⟩ ⟨(Nat.le_of_ble_eq_true rfl), (Nat.le_of_ble_eq_true rfl)⟩ ⟨(Nat.le_of_ble_eq_true rfl), (Nat.le_of_ble_eq_true rfl)⟩ xT_b xT_at 6 4 rfl rfl rfl _ hC_ (nd_T _ 0) rfl hl3.1 rfl (Nat.le_of_ble_eq_true rfl) dX10_light_2)) rfl (fun _ => rfl) (fun _ => rfl) (fun r_5 u_4 H1 locs hp hw6 => ?_)
  generalize H1 = H at hw6 ⊢
  have hw7 : WD D A s.heap (WZ_VO cI cJ mv mr mi mf mg) H locs := hw6
  obtain ⟨hp_8, hp_9⟩ := hp
  have hp_8 : 0 ≤ r_5.toInt := hp_8
  have hp_9 : r_5.toInt ≤ 1 := hp_9
  refine lv_istore_n (pc := 5) (lv' := [(3, .int r_5), (0, .ref (mr 0)), (1, .ref (mr 10)), (2, .int z_h)]) E.1 E.2.1 dX10_light_5 rfl hl3 (by decide) rfl (fun ls hl10 => ?_)
  refine lv_iconst (pc := 6) (v := 0) E.1 E.2.1 dX10_light_6 (by decide +kernel) ?_
  refine lv_istore (pc := 7) (lv' := [(4, .int 0), (3, .int r_5), (0, .ref (mr 0)), (1, .ref (mr 10)), (2, .int z_h)]) E.1 E.2.1 dX10_light_7 hl10 (by decide) rfl (fun ls hl11 => ?_)
  refine lv_iconst (pc := 9) (v := 0) E.1 E.2.1 dX10_light_9 (by decide +kernel) ?_
  refine lv_istore (pc := 10) (lv' := [(5, .int 0), (4, .int 0), (3, .int r_5), (0, .ref (mr 0)), (1, .ref (mr 10)), (2, .int z_h)]) E.1 E.2.1 dX10_light_10 hl11 (by decide) rfl (fun ls hl12 => ?_)
  have loop_13 : ∀ (k : Nat) (x_14 : Int32) (x_15 : Int32) (g_16 : Nat → Int32) (H : Heap) (locs : List Loc) (ls : Array Slot), (0 ≤ x_14.toInt) ∧ (x_14.toInt ≤ (mi 46).toInt) → (mi 46).toInt - x_14.toInt < (k : Int) → WD D A s.heap (WZ_VO cI cJ mv mr mi (va_up mf 15 g_16) mg) H locs → lv_has ls 7 [(5, .int x_14), (4, .int x_15), (3, .int r_5), (0, .ref (mr 0)), (1, .ref (mr 10)), (2, .int z_h)] → W p l e ({ frames := 2, cells := 0, slots := 0, locals := 63 } : Room) s m ([.ref (mr 0), .ref (mr 10), .int z_h] : List Value).toArray below meth c H locs 0 0 (MQ below (va_Qi (fun (r : Int32) (u : (Nat → Int32) × (Nat → Int32) × (Nat → Int32) × (Nat → Int32)) => True) (fun u => QW D cI cJ A ((fun (u : (Nat → Int32) × (Nat → Int32) × (Nat → Int32) × (Nat → Int32)) => (WZ_VO cI cJ mv mr mi (va_up (va_up (va_up (va_up mf 15 u.1) 13 u.2.1) 14 u.2.2.1) 12 u.2.2.2) mg)) u)) A) ([.ref (mr 0), .ref (mr 10), .int z_h] : List Value).toArray s 0 0 A) (F0 m 12 ls []) := by
    intro k
    induction k with
    | zero =>
      intro x_14 x_15 g_16 _ _ _ hinv hm
      obtain ⟨hi_16_0, hi_16_1⟩ := hinv
      exact absurd hm (by omega)
    | succ k ih_17 =>
      intro x_14 x_15 g_16 H locs ls hinv hm hw18 hl19
      obtain ⟨hi_16_0, hi_16_1⟩ := hinv
      refine lv_iload (pc := 12) E.1 E.2.1 dX10_light_12 (lv_at hl19 0 rfl) ?_
      refine lv_aload_n (pc := 14) E.1 E.2.1 dX10_light_14 rfl (lv_at hl19 3 rfl) ?_
      refine x_get (pc := 15) (T := TX10) (N := 17) (ci := 10) (v := .ref (mr 40)) E hw18 inX10 0 3 q_467 rfl rfl (by decide) rfl rfl dX10_light_15 ?_
      refine x_get (pc := 18) (T := TX3) (N := 6) (ci := 3) (v := .int (mi 46)) E hw18 inX3 27 5 q_364 rfl rfl (by decide) rfl rfl dX10_light_18 ?_
      refine lv_icmp_ge (pc := 21) (tgt := 107) E.1 E.2.1 dX10_light_21 (by decide) (fun c_20 => ?_) (fun c_20 => ?_)
      · skip
        have hc_20 := leE (a := (mi 46).toInt) (b := x_14.toInt) rfl rfl c_20
        refine lv_aload_n (pc := 107) E.1 E.2.1 dX10_light_107 rfl (lv_at hl19 4 rfl) ?_
        refine x_get (pc := 108) (T := TX4) (N := 12) (ci := 4) (v := .ref (mr 13)) E hw18 inX4 6 2 q_198 rfl rfl (by decide) rfl rfl dX10_light_108 ?_
        refine lv_iload_n (pc := 111) E.1 E.2.1 dX10_light_111 rfl (lv_at hl19 5 rfl) ?_
        refine lv_dup2_11 (pc := 112) E.1 E.2.1 dX10_light_112 rfl rfl ?_
        refine x_iald (pc := 113) (f := (mf 13)) E hw18 9 rfl (inbE (a := z_h.toInt) rfl (by omega)) dX10_light_113 ?_
        refine lv_topi (fun v_21 ev_21 => ?_)
        refine lv_iconst (pc := 114) (v := 1) E.1 E.2.1 dX10_light_114 (by decide +kernel) ?_
        refine lv_iadd (pc := 115) E.1 E.2.1 dX10_light_115 ?_
        refine lv_topi (fun v_22 ev_22 => ?_)
        refine x_iastG (pc := 116) (f := (mf 13)) (wf := fun g => (WZ_VO cI cJ mv mr mi (va_up (va_up mf 13 g) 15 g_16) mg)) E hw18 9 rfl (inbE (a := z_h.toInt) rfl (by omega)) (fun _ => rfl) dX10_light_116 (fun g_23 H locs eg_23 hw24 => ?_)
        refine lv_aload_n (pc := 117) E.1 E.2.1 dX10_light_117 rfl (lv_at hl19 4 rfl) ?_
        refine x_get (pc := 118) (T := TX4) (N := 12) (ci := 4) (v := .ref (mr 14)) E hw24 inX4 6 3 q_201 rfl rfl (by decide) rfl rfl dX10_light_118 ?_
        refine lv_iload_n (pc := 121) E.1 E.2.1 dX10_light_121 rfl (lv_at hl19 5 rfl) ?_
        refine lv_aload_n (pc := 122) E.1 E.2.1 dX10_light_122 rfl (lv_at hl19 4 rfl) ?_
        refine x_get (pc := 123) (T := TX4) (N := 12) (ci := 4) (v := .int (mi 18)) E hw24 inX4 6 7 q_220 rfl rfl (by decide) rfl rfl dX10_light_123 ?_
        refine x_iastG (pc := 126) (f := (mf 14)) (wf := fun g => (WZ_VO cI cJ mv mr mi (va_up (va_up (va_up mf 13 g_23) 14 g) 15 g_16) mg)) E hw24 10 rfl (inbE (a := z_h.toInt) rfl (by omega)) (fun _ => rfl) dX10_light_126 (fun g_25 H locs eg_25 hw26 => ?_)
        refine lv_aload_n (pc := 127) E.1 E.2.1 dX10_light_127 rfl (lv_at hl19 4 rfl) ?_
        refine x_get (pc := 128) (T := TX4) (N := 12) (ci := 4) (v := .ref (mr 12)) E hw26 inX4 6 1 q_195 rfl rfl (by decide) rfl rfl dX10_light_128 ?_
        refine lv_iload_n (pc := 131) E.1 E.2.1 dX10_light_131 rfl (lv_at hl19 5 rfl) ?_
        refine lv_iconst (pc := 132) (v := 0) E.1 E.2.1 dX10_light_132 (by decide +kernel) ?_
        refine lv_aload_n (pc := 133) E.1 E.2.1 dX10_light_133 rfl (lv_at hl19 4 rfl) ?_
        refine x_get (pc := 134) (T := TX4) (N := 12) (ci := 4) (v := .ref (mr 12)) E hw26 inX4 6 1 q_195 rfl rfl (by decide) rfl rfl dX10_light_134 ?_
        refine lv_iload_n (pc := 137) E.1 E.2.1 dX10_light_137 rfl (lv_at hl19 5 rfl) ?_
        refine x_iald (pc := 138) (f := (mf 12)) E hw26 8 rfl (inbE (a := z_h.toInt) rfl (by omega)) dX10_light_138 ?_
        refine lv_topi (fun v_27 ev_27 => ?_)
        refine lv_iconst (pc := 139) (v := 1) E.1 E.2.1 dX10_light_139 (by decide +kernel) ?_
        refine lv_isub (pc := 140) E.1 E.2.1 dX10_light_140 ?_
        refine lv_topi (fun v_28 ev_28 => ?_)
        refine x_max (pc := 141) E hl19.1 q_1068 q_805 q_167 q_806 (Nat.le_of_ble_eq_true rfl) (Nat.le_of_ble_eq_true rfl) (Nat.le_of_ble_eq_true rfl) (Nat.le_of_ble_eq_true rfl) dX10_light_141 (fun v_29 hv_29 => ?_)
        rw [show (0 : Int32).toInt = 0 from by decide +kernel] at hv_29
        have hv_29a : 0 ≤ v_29.toInt ∧ v_28.toInt ≤ v_29.toInt := by omega
        clear hv_29
        refine x_iastG (pc := 144) (f := (mf 12)) (wf := fun g => (WZ_VO cI cJ mv mr mi (va_up (va_up (va_up (va_up mf 12 g) 13 g_23) 14 g_25) 15 g_16) mg)) E hw26 8 rfl (inbE (a := z_h.toInt) rfl (by omega)) (fun _ => rfl) dX10_light_144 (fun g_30 H locs eg_30 hw31 => ?_)
        refine lv_iload (pc := 145) E.1 E.2.1 dX10_light_145 (lv_at hl19 1 rfl) ?_
        exact em_i (w1 := (fun (u : (Nat → Int32) × (Nat → Int32) × (Nat → Int32) × (Nat → Int32)) => (WZ_VO cI cJ mv mr mi (va_up (va_up (va_up (va_up mf 15 u.1) 13 u.2.1) 14 u.2.2.1) 12 u.2.2.2) mg))) E hr hlk (g_16, g_23, g_25, g_30) hw31 trivial (Nat.le_of_ble_eq_true rfl) (Nat.le_of_ble_eq_true rfl) dX10_light_147
      · skip
        have hc_20 := nleE (a := (mi 46).toInt) (b := x_14.toInt) rfl rfl c_20
        refine lv_aload_n (pc := 24) E.1 E.2.1 dX10_light_24 rfl (lv_at hl19 3 rfl) ?_
        refine x_get (pc := 25) (T := TX10) (N := 17) (ci := 10) (v := .ref (mr 40)) E hw18 inX10 0 3 q_467 rfl rfl (by decide) rfl rfl dX10_light_25 ?_
        refine x_get (pc := 28) (T := TX3) (N := 6) (ci := 3) (v := .ref (mr 41)) E hw18 inX3 27 0 q_345 rfl rfl (by decide) rfl rfl dX10_light_28 ?_
        refine lv_iload (pc := 31) E.1 E.2.1 dX10_light_31 (lv_at hl19 0 rfl) ?_
        refine x_iald (pc := 33) (f := (mf 41)) E hw18 28 rfl (inbE (a := x_14.toInt) rfl (by omega)) dX10_light_33 ?_
        refine lv_topi (fun v_32 ev_32 => ?_)
        refine lv_iconst (pc := 34) (v := 3) E.1 E.2.1 dX10_light_34 (by decide +kernel) ?_
        refine lv_icmp_ne (pc := 35) (tgt := 42) E.1 E.2.1 dX10_light_35 (by decide) (fun c_33 => ?_) (fun c_33 => ?_)
        · skip
          have hc_33 := neE (a := v_32.toInt) (b := 3) rfl (by decide +kernel) c_33
          refine lv_iconst (pc := 42) (v := 1) E.1 E.2.1 dX10_light_42 (by decide +kernel) ?_
          refine lv_goto (pc := 43) (tgt := 47) E.1 E.2.1 dX10_light_43 (by decide) ?_
          refine lv_istore (pc := 47) (lv' := [(6, .int 1), (5, .int x_14), (4, .int x_15), (3, .int r_5), (0, .ref (mr 0)), (1, .ref (mr 10)), (2, .int z_h)]) E.1 E.2.1 dX10_light_47 hl19 (by decide) rfl (fun ls hl34 => ?_)
          refine lv_aload_n (pc := 49) E.1 E.2.1 dX10_light_49 rfl (lv_at hl34 4 rfl) ?_
          refine x_get (pc := 50) (T := TX10) (N := 17) (ci := 10) (v := .ref (mr 40)) E hw18 inX10 0 3 q_467 rfl rfl (by decide) rfl rfl dX10_light_50 ?_
          refine x_get (pc := 53) (T := TX3) (N := 6) (ci := 3) (v := .ref (mr 42)) E hw18 inX3 27 1 q_349 rfl rfl (by decide) rfl rfl dX10_light_53 ?_
          refine lv_iload (pc := 56) E.1 E.2.1 dX10_light_56 (lv_at hl34 1 rfl) ?_
          refine x_iald (pc := 58) (f := (mf 42)) E hw18 29 rfl (inbE (a := x_14.toInt) rfl (by omega)) dX10_light_58 ?_
          refine lv_topi (fun v_35 ev_35 => ?_)
          refine lv_iload_n (pc := 59) E.1 E.2.1 dX10_light_59 rfl (lv_at hl34 6 rfl) ?_
          refine lv_icmp_ne (pc := 60) (tgt := 101) E.1 E.2.1 dX10_light_60 (by decide) (fun c_36 => ?_) (fun c_36 => ?_)
          · skip
            have hc_36 := neE (a := v_35.toInt) (b := z_h.toInt) rfl rfl c_36
            obtain ⟨v_37, ev_37⟩ : ∃ z : Int32, x_14 + Int32.ofInt (1) = z := ⟨_, rfl⟩
            have hv_37 : v_37.toInt = x_14.toInt + (1) := by rw [← ev_37]; exact incE rfl (by decide) (by omega)
            refine lv_iinc (pc := 101) (v := v_37) (lv' := [(5, .int v_37), (6, .int 1), (4, .int x_15), (3, .int r_5), (0, .ref (mr 0)), (1, .ref (mr 10)), (2, .int z_h)]) E.1 E.2.1 dX10_light_101 hl34 (k := 1) rfl ev_37 (by decide) rfl (fun ls hl38 => ?_)
            refine lv_goto (pc := 104) (tgt := 12) E.1 E.2.1 dX10_light_104 (by decide) ?_
            exact ih_17 v_37 x_15 g_16 _ _ _ ⟨(by show 0 ≤ v_37.toInt; omega), (by show v_37.toInt ≤ (mi 46).toInt; omega)⟩ (by omega) hw18 (lv_sub hl38 [0, 2, 3, 4, 5, 6] rfl)
          · skip
            have hc_36 := eqE (a := v_35.toInt) (b := z_h.toInt) rfl rfl c_36
            refine lv_aload_n (pc := 63) E.1 E.2.1 dX10_light_63 rfl (lv_at hl34 4 rfl) ?_
            refine x_get (pc := 64) (T := TX10) (N := 17) (ci := 10) (v := .ref (mr 40)) E hw18 inX10 0 3 q_467 rfl rfl (by decide) rfl rfl dX10_light_64 ?_
            refine lv_iload (pc := 67) E.1 E.2.1 dX10_light_67 (lv_at hl34 1 rfl) ?_
            refine lv_aload_n (pc := 69) E.1 E.2.1 dX10_light_69 rfl (lv_at hl34 5 rfl) ?_
            refine cq_i (pc := 70) (ws' := (fun (u : Unit) => (WZ_VO cI cJ mv mr mi (va_up mf 15 g_16) mg))) hw18 [27, 28, 29, 30, 31, 32, 6, 7, 8, 9, 10, 11] [0, 1, 2, 3, 4, 5, 12, 13, 14, 15, 16, 17, 18, 19, 20, 21, 22, 23, 24, 25, 26, 33, 34, 35, 36, 37, 38, 39, 40, 41, 42, 43, 44, 45, 46, 47, 48, 49] [0, 1, 2, 3, 4, 5, 44, 45, 46, 47, 48, 49, 6, 7, 8, 9, 10, 11, 12, 13, 14, 15, 16, 17, 18, 19, 20, 38, 39, 40, 41, 42, 43, 21, 22, 23, 24, 25, 26, 27, 28, 29, 30, 31, 32, 33, 34, 35, 36, 37] rfl rfl (by decide) (by decide) (fun _ => rfl) (by decide) (rn_V (As := [.int x_14, .ref (mr 10)]) (rest := []) E hw18 (t_isOpen l D cI cJ _ (shg 7 40 3 mr) (shg 7 40 3 mi) (shg 7 40 3 (va_up mf 15 g_16)) (shg 7 40 3 mg) x_14 (by show 0 ≤ x_14.toInt ∧ x_14.toInt ≤ 9; omega)) (gdV q_1077 q_1045 q_1046 q_156 q_1047) hdV_X3_isOpen ⟨rfl, rfl⟩ ⟨(Nat.le_of_ble_eq_true rfl), (Nat.le_of_ble_eq_true rfl)⟩ ⟨(Nat.le_of_ble_eq_true rfl), (Nat.le_of_ble_eq_true rfl)⟩ xT_b xT_at 27 3 rfl rfl rfl [27, 28, 29, 30, 31, 32, 6, 7, 8, 9, 10, 11] rfl (by decide) rfl hl34.1 rfl (Nat.le_of_ble_eq_true rfl) dX10_light_70) (fun r_40 u_39 H1 locs hp hw41 => ?_)
            generalize H1 = H at hw41 ⊢
            have hw42 : WD D A s.heap (WZ_VO cI cJ mv mr mi (va_up mf 15 g_16) mg) H locs := hw41
            obtain ⟨hp_43, hp_44⟩ := hp
            have hp_43 : 0 ≤ r_40.toInt := hp_43
            have hp_44 : r_40.toInt ≤ 1 := hp_44
            refine lv_if_eq (pc := 73) (tgt := 101) E.1 E.2.1 dX10_light_73 (by decide) (fun c_45 => ?_) (fun c_45 => ?_)
            · skip
              have hc_45 := eqE (a := r_40.toInt) (b := 0) rfl (by decide +kernel) c_45
              obtain ⟨v_46, ev_46⟩ : ∃ z : Int32, x_14 + Int32.ofInt (1) = z := ⟨_, rfl⟩
              have hv_46 : v_46.toInt = x_14.toInt + (1) := by rw [← ev_46]; exact incE rfl (by decide) (by omega)
              refine lv_iinc (pc := 101) (v := v_46) (lv' := [(5, .int v_46), (6, .int 1), (4, .int x_15), (3, .int r_5), (0, .ref (mr 0)), (1, .ref (mr 10)), (2, .int z_h)]) E.1 E.2.1 dX10_light_101 hl34 (k := 1) rfl ev_46 (by decide) rfl (fun ls hl47 => ?_)
              refine lv_goto (pc := 104) (tgt := 12) E.1 E.2.1 dX10_light_104 (by decide) ?_
              exact ih_17 v_46 x_15 g_16 _ _ _ ⟨(by show 0 ≤ v_46.toInt; omega), (by show v_46.toInt ≤ (mi 46).toInt; omega)⟩ (by omega) hw42 (lv_sub hl47 [0, 2, 3, 4, 5, 6] rfl)
            · skip
              have hc_45 := neE (a := r_40.toInt) (b := 0) rfl (by decide +kernel) c_45
              refine lv_iload (pc := 76) E.1 E.2.1 dX10_light_76 (lv_at hl34 0 rfl) ?_
              refine lv_if_eq (pc := 78) (tgt := 101) E.1 E.2.1 dX10_light_78 (by decide) (fun c_48 => absurd c_48 (mneE (a := 1) (b := 0) (by decide +kernel) (by decide +kernel) (by omega))) (fun _ => ?_)
              refine lv_aload_n (pc := 81) E.1 E.2.1 dX10_light_81 rfl (lv_at hl34 5 rfl) ?_
              refine x_get (pc := 82) (T := TX4) (N := 12) (ci := 4) (v := .ref (mr 15)) E hw42 inX4 6 4 q_206 rfl rfl (by decide) rfl rfl dX10_light_82 ?_
              refine lv_iload (pc := 85) E.1 E.2.1 dX10_light_85 (lv_at hl34 1 rfl) ?_
              refine lv_aload_n (pc := 87) E.1 E.2.1 dX10_light_87 rfl (lv_at hl34 5 rfl) ?_
              refine x_get (pc := 88) (T := TX4) (N := 12) (ci := 4) (v := .int (mi 18)) E hw42 inX4 6 7 q_220 rfl rfl (by decide) rfl rfl dX10_light_88 ?_
              refine x_iastG (pc := 91) (f := g_16) (wf := fun g => (WZ_VO cI cJ mv mr mi (va_up mf 15 g) mg)) E hw42 11 rfl (inbE (a := x_14.toInt) rfl (by omega)) (fun _ => rfl) dX10_light_91 (fun g_49 H locs eg_49 hw50 => ?_)
              refine lv_iload (pc := 92) E.1 E.2.1 dX10_light_92 (lv_at hl34 2 rfl) ?_
              refine lv_iconst (pc := 94) (v := 1) E.1 E.2.1 dX10_light_94 (by decide +kernel) ?_
              refine lv_iload (pc := 95) E.1 E.2.1 dX10_light_95 (lv_at hl34 1 rfl) ?_
              refine lv_ishl (pc := 97) E.1 E.2.1 dX10_light_97 ?_
              refine lv_topi (fun v_51 ev_51 => ?_)
              have hb1v_51 : 1 ≤ v_51.toInt ∧ v_51.toInt ≤ 512 := by rw [ev_51]; exact shl9 (by omega)
              refine lv_ior (pc := 98) E.1 E.2.1 dX10_light_98 ?_
              refine lv_topi (fun v_52 ev_52 => ?_)
              refine lv_istore (pc := 99) (lv' := [(4, .int v_52), (6, .int 1), (5, .int x_14), (3, .int r_5), (0, .ref (mr 0)), (1, .ref (mr 10)), (2, .int z_h)]) E.1 E.2.1 dX10_light_99 hl34 (by decide) rfl (fun ls hl53 => ?_)
              obtain ⟨v_54, ev_54⟩ : ∃ z : Int32, x_14 + Int32.ofInt (1) = z := ⟨_, rfl⟩
              have hv_54 : v_54.toInt = x_14.toInt + (1) := by rw [← ev_54]; exact incE rfl (by decide) (by omega)
              refine lv_iinc (pc := 101) (v := v_54) (lv' := [(5, .int v_54), (4, .int v_52), (6, .int 1), (3, .int r_5), (0, .ref (mr 0)), (1, .ref (mr 10)), (2, .int z_h)]) E.1 E.2.1 dX10_light_101 hl53 (k := 2) rfl ev_54 (by decide) rfl (fun ls hl55 => ?_)
              refine lv_goto (pc := 104) (tgt := 12) E.1 E.2.1 dX10_light_104 (by decide) ?_
              exact ih_17 v_54 v_52 g_49 _ _ _ ⟨(by show 0 ≤ v_54.toInt; omega), (by show v_54.toInt ≤ (mi 46).toInt; omega)⟩ (by omega) hw50 (lv_sub hl55 [0, 1, 3, 4, 5, 6] rfl)
        · skip
          have hc_33 := eqE (a := v_32.toInt) (b := 3) rfl (by decide +kernel) c_33
          refine lv_iload_n (pc := 38) E.1 E.2.1 dX10_light_38 rfl (lv_at hl19 2 rfl) ?_
          refine lv_if_eq (pc := 39) (tgt := 46) E.1 E.2.1 dX10_light_39 (by decide) (fun c_56 => ?_) (fun c_56 => ?_)
          · skip
            have hc_56 := eqE (a := r_5.toInt) (b := 0) rfl (by decide +kernel) c_56
            refine lv_iconst (pc := 46) (v := 0) E.1 E.2.1 dX10_light_46 (by decide +kernel) ?_
            refine lv_istore (pc := 47) (lv' := [(6, .int 0), (5, .int x_14), (4, .int x_15), (3, .int r_5), (0, .ref (mr 0)), (1, .ref (mr 10)), (2, .int z_h)]) E.1 E.2.1 dX10_light_47 hl19 (by decide) rfl (fun ls hl57 => ?_)
            refine lv_aload_n (pc := 49) E.1 E.2.1 dX10_light_49 rfl (lv_at hl57 4 rfl) ?_
            refine x_get (pc := 50) (T := TX10) (N := 17) (ci := 10) (v := .ref (mr 40)) E hw18 inX10 0 3 q_467 rfl rfl (by decide) rfl rfl dX10_light_50 ?_
            refine x_get (pc := 53) (T := TX3) (N := 6) (ci := 3) (v := .ref (mr 42)) E hw18 inX3 27 1 q_349 rfl rfl (by decide) rfl rfl dX10_light_53 ?_
            refine lv_iload (pc := 56) E.1 E.2.1 dX10_light_56 (lv_at hl57 1 rfl) ?_
            refine x_iald (pc := 58) (f := (mf 42)) E hw18 29 rfl (inbE (a := x_14.toInt) rfl (by omega)) dX10_light_58 ?_
            refine lv_topi (fun v_58 ev_58 => ?_)
            refine lv_iload_n (pc := 59) E.1 E.2.1 dX10_light_59 rfl (lv_at hl57 6 rfl) ?_
            refine lv_icmp_ne (pc := 60) (tgt := 101) E.1 E.2.1 dX10_light_60 (by decide) (fun c_59 => ?_) (fun c_59 => ?_)
            · skip
              have hc_59 := neE (a := v_58.toInt) (b := z_h.toInt) rfl rfl c_59
              obtain ⟨v_60, ev_60⟩ : ∃ z : Int32, x_14 + Int32.ofInt (1) = z := ⟨_, rfl⟩
              have hv_60 : v_60.toInt = x_14.toInt + (1) := by rw [← ev_60]; exact incE rfl (by decide) (by omega)
              refine lv_iinc (pc := 101) (v := v_60) (lv' := [(5, .int v_60), (6, .int 0), (4, .int x_15), (3, .int r_5), (0, .ref (mr 0)), (1, .ref (mr 10)), (2, .int z_h)]) E.1 E.2.1 dX10_light_101 hl57 (k := 1) rfl ev_60 (by decide) rfl (fun ls hl61 => ?_)
              refine lv_goto (pc := 104) (tgt := 12) E.1 E.2.1 dX10_light_104 (by decide) ?_
              exact ih_17 v_60 x_15 g_16 _ _ _ ⟨(by show 0 ≤ v_60.toInt; omega), (by show v_60.toInt ≤ (mi 46).toInt; omega)⟩ (by omega) hw18 (lv_sub hl61 [0, 2, 3, 4, 5, 6] rfl)
            · skip
              have hc_59 := eqE (a := v_58.toInt) (b := z_h.toInt) rfl rfl c_59
              refine lv_aload_n (pc := 63) E.1 E.2.1 dX10_light_63 rfl (lv_at hl57 4 rfl) ?_
              refine x_get (pc := 64) (T := TX10) (N := 17) (ci := 10) (v := .ref (mr 40)) E hw18 inX10 0 3 q_467 rfl rfl (by decide) rfl rfl dX10_light_64 ?_
              refine lv_iload (pc := 67) E.1 E.2.1 dX10_light_67 (lv_at hl57 1 rfl) ?_
              refine lv_aload_n (pc := 69) E.1 E.2.1 dX10_light_69 rfl (lv_at hl57 5 rfl) ?_
              refine cq_i (pc := 70) (ws' := (fun (u : Unit) => (WZ_VO cI cJ mv mr mi (va_up mf 15 g_16) mg))) hw18 [27, 28, 29, 30, 31, 32, 6, 7, 8, 9, 10, 11] [0, 1, 2, 3, 4, 5, 12, 13, 14, 15, 16, 17, 18, 19, 20, 21, 22, 23, 24, 25, 26, 33, 34, 35, 36, 37, 38, 39, 40, 41, 42, 43, 44, 45, 46, 47, 48, 49] [0, 1, 2, 3, 4, 5, 44, 45, 46, 47, 48, 49, 6, 7, 8, 9, 10, 11, 12, 13, 14, 15, 16, 17, 18, 19, 20, 38, 39, 40, 41, 42, 43, 21, 22, 23, 24, 25, 26, 27, 28, 29, 30, 31, 32, 33, 34, 35, 36, 37] rfl rfl (by decide) (by decide) (fun _ => rfl) (by decide) (rn_V (As := [.int x_14, .ref (mr 10)]) (rest := []) E hw18 (t_isOpen l D cI cJ _ (shg 7 40 3 mr) (shg 7 40 3 mi) (shg 7 40 3 (va_up mf 15 g_16)) (shg 7 40 3 mg) x_14 (by show 0 ≤ x_14.toInt ∧ x_14.toInt ≤ 9; omega)) (gdV q_1077 q_1045 q_1046 q_156 q_1047) hdV_X3_isOpen ⟨rfl, rfl⟩ ⟨(Nat.le_of_ble_eq_true rfl), (Nat.le_of_ble_eq_true rfl)⟩ ⟨(Nat.le_of_ble_eq_true rfl), (Nat.le_of_ble_eq_true rfl)⟩ xT_b xT_at 27 3 rfl rfl rfl [27, 28, 29, 30, 31, 32, 6, 7, 8, 9, 10, 11] rfl (by decide) rfl hl57.1 rfl (Nat.le_of_ble_eq_true rfl) dX10_light_70) (fun r_63 u_62 H1 locs hp hw64 => ?_)
              generalize H1 = H at hw64 ⊢
              have hw65 : WD D A s.heap (WZ_VO cI cJ mv mr mi (va_up mf 15 g_16) mg) H locs := hw64
              obtain ⟨hp_66, hp_67⟩ := hp
              have hp_66 : 0 ≤ r_63.toInt := hp_66
              have hp_67 : r_63.toInt ≤ 1 := hp_67
              refine lv_if_eq (pc := 73) (tgt := 101) E.1 E.2.1 dX10_light_73 (by decide) (fun c_68 => ?_) (fun c_68 => ?_)
              · skip
                have hc_68 := eqE (a := r_63.toInt) (b := 0) rfl (by decide +kernel) c_68
                obtain ⟨v_69, ev_69⟩ : ∃ z : Int32, x_14 + Int32.ofInt (1) = z := ⟨_, rfl⟩
                have hv_69 : v_69.toInt = x_14.toInt + (1) := by rw [← ev_69]; exact incE rfl (by decide) (by omega)
                refine lv_iinc (pc := 101) (v := v_69) (lv' := [(5, .int v_69), (6, .int 0), (4, .int x_15), (3, .int r_5), (0, .ref (mr 0)), (1, .ref (mr 10)), (2, .int z_h)]) E.1 E.2.1 dX10_light_101 hl57 (k := 1) rfl ev_69 (by decide) rfl (fun ls hl70 => ?_)
                refine lv_goto (pc := 104) (tgt := 12) E.1 E.2.1 dX10_light_104 (by decide) ?_
                exact ih_17 v_69 x_15 g_16 _ _ _ ⟨(by show 0 ≤ v_69.toInt; omega), (by show v_69.toInt ≤ (mi 46).toInt; omega)⟩ (by omega) hw65 (lv_sub hl70 [0, 2, 3, 4, 5, 6] rfl)
              · skip
                have hc_68 := neE (a := r_63.toInt) (b := 0) rfl (by decide +kernel) c_68
                refine lv_iload (pc := 76) E.1 E.2.1 dX10_light_76 (lv_at hl57 0 rfl) ?_
                refine lv_if_eq (pc := 78) (tgt := 101) E.1 E.2.1 dX10_light_78 (by decide) (fun _ => ?_) (fun c_71 => absurd (meqE (a := 0) (b := 0) (by decide +kernel) (by decide +kernel) (by omega)) c_71)
                obtain ⟨v_72, ev_72⟩ : ∃ z : Int32, x_14 + Int32.ofInt (1) = z := ⟨_, rfl⟩
                have hv_72 : v_72.toInt = x_14.toInt + (1) := by rw [← ev_72]; exact incE rfl (by decide) (by omega)
                refine lv_iinc (pc := 101) (v := v_72) (lv' := [(5, .int v_72), (6, .int 0), (4, .int x_15), (3, .int r_5), (0, .ref (mr 0)), (1, .ref (mr 10)), (2, .int z_h)]) E.1 E.2.1 dX10_light_101 hl57 (k := 1) rfl ev_72 (by decide) rfl (fun ls hl73 => ?_)
                refine lv_goto (pc := 104) (tgt := 12) E.1 E.2.1 dX10_light_104 (by decide) ?_
                exact ih_17 v_72 x_15 g_16 _ _ _ ⟨(by show 0 ≤ v_72.toInt; omega), (by show v_72.toInt ≤ (mi 46).toInt; omega)⟩ (by omega) hw65 (lv_sub hl73 [0, 2, 3, 4, 5, 6] rfl)
          · skip
            have hc_56 := neE (a := r_5.toInt) (b := 0) rfl (by decide +kernel) c_56
            refine lv_iconst (pc := 42) (v := 1) E.1 E.2.1 dX10_light_42 (by decide +kernel) ?_
            refine lv_goto (pc := 43) (tgt := 47) E.1 E.2.1 dX10_light_43 (by decide) ?_
            refine lv_istore (pc := 47) (lv' := [(6, .int 1), (5, .int x_14), (4, .int x_15), (3, .int r_5), (0, .ref (mr 0)), (1, .ref (mr 10)), (2, .int z_h)]) E.1 E.2.1 dX10_light_47 hl19 (by decide) rfl (fun ls hl74 => ?_)
            refine lv_aload_n (pc := 49) E.1 E.2.1 dX10_light_49 rfl (lv_at hl74 4 rfl) ?_
            refine x_get (pc := 50) (T := TX10) (N := 17) (ci := 10) (v := .ref (mr 40)) E hw18 inX10 0 3 q_467 rfl rfl (by decide) rfl rfl dX10_light_50 ?_
            refine x_get (pc := 53) (T := TX3) (N := 6) (ci := 3) (v := .ref (mr 42)) E hw18 inX3 27 1 q_349 rfl rfl (by decide) rfl rfl dX10_light_53 ?_
            refine lv_iload (pc := 56) E.1 E.2.1 dX10_light_56 (lv_at hl74 1 rfl) ?_
            refine x_iald (pc := 58) (f := (mf 42)) E hw18 29 rfl (inbE (a := x_14.toInt) rfl (by omega)) dX10_light_58 ?_
            refine lv_topi (fun v_75 ev_75 => ?_)
            refine lv_iload_n (pc := 59) E.1 E.2.1 dX10_light_59 rfl (lv_at hl74 6 rfl) ?_
            refine lv_icmp_ne (pc := 60) (tgt := 101) E.1 E.2.1 dX10_light_60 (by decide) (fun c_76 => ?_) (fun c_76 => ?_)
            · skip
              have hc_76 := neE (a := v_75.toInt) (b := z_h.toInt) rfl rfl c_76
              obtain ⟨v_77, ev_77⟩ : ∃ z : Int32, x_14 + Int32.ofInt (1) = z := ⟨_, rfl⟩
              have hv_77 : v_77.toInt = x_14.toInt + (1) := by rw [← ev_77]; exact incE rfl (by decide) (by omega)
              refine lv_iinc (pc := 101) (v := v_77) (lv' := [(5, .int v_77), (6, .int 1), (4, .int x_15), (3, .int r_5), (0, .ref (mr 0)), (1, .ref (mr 10)), (2, .int z_h)]) E.1 E.2.1 dX10_light_101 hl74 (k := 1) rfl ev_77 (by decide) rfl (fun ls hl78 => ?_)
              refine lv_goto (pc := 104) (tgt := 12) E.1 E.2.1 dX10_light_104 (by decide) ?_
              exact ih_17 v_77 x_15 g_16 _ _ _ ⟨(by show 0 ≤ v_77.toInt; omega), (by show v_77.toInt ≤ (mi 46).toInt; omega)⟩ (by omega) hw18 (lv_sub hl78 [0, 2, 3, 4, 5, 6] rfl)
            · skip
              have hc_76 := eqE (a := v_75.toInt) (b := z_h.toInt) rfl rfl c_76
              refine lv_aload_n (pc := 63) E.1 E.2.1 dX10_light_63 rfl (lv_at hl74 4 rfl) ?_
              refine x_get (pc := 64) (T := TX10) (N := 17) (ci := 10) (v := .ref (mr 40)) E hw18 inX10 0 3 q_467 rfl rfl (by decide) rfl rfl dX10_light_64 ?_
              refine lv_iload (pc := 67) E.1 E.2.1 dX10_light_67 (lv_at hl74 1 rfl) ?_
              refine lv_aload_n (pc := 69) E.1 E.2.1 dX10_light_69 rfl (lv_at hl74 5 rfl) ?_
              refine cq_i (pc := 70) (ws' := (fun (u : Unit) => (WZ_VO cI cJ mv mr mi (va_up mf 15 g_16) mg))) hw18 [27, 28, 29, 30, 31, 32, 6, 7, 8, 9, 10, 11] [0, 1, 2, 3, 4, 5, 12, 13, 14, 15, 16, 17, 18, 19, 20, 21, 22, 23, 24, 25, 26, 33, 34, 35, 36, 37, 38, 39, 40, 41, 42, 43, 44, 45, 46, 47, 48, 49] [0, 1, 2, 3, 4, 5, 44, 45, 46, 47, 48, 49, 6, 7, 8, 9, 10, 11, 12, 13, 14, 15, 16, 17, 18, 19, 20, 38, 39, 40, 41, 42, 43, 21, 22, 23, 24, 25, 26, 27, 28, 29, 30, 31, 32, 33, 34, 35, 36, 37] rfl rfl (by decide) (by decide) (fun _ => rfl) (by decide) (rn_V (As := [.int x_14, .ref (mr 10)]) (rest := []) E hw18 (t_isOpen l D cI cJ _ (shg 7 40 3 mr) (shg 7 40 3 mi) (shg 7 40 3 (va_up mf 15 g_16)) (shg 7 40 3 mg) x_14 (by show 0 ≤ x_14.toInt ∧ x_14.toInt ≤ 9; omega)) (gdV q_1077 q_1045 q_1046 q_156 q_1047) hdV_X3_isOpen ⟨rfl, rfl⟩ ⟨(Nat.le_of_ble_eq_true rfl), (Nat.le_of_ble_eq_true rfl)⟩ ⟨(Nat.le_of_ble_eq_true rfl), (Nat.le_of_ble_eq_true rfl)⟩ xT_b xT_at 27 3 rfl rfl rfl [27, 28, 29, 30, 31, 32, 6, 7, 8, 9, 10, 11] rfl (by decide) rfl hl74.1 rfl (Nat.le_of_ble_eq_true rfl) dX10_light_70) (fun r_80 u_79 H1 locs hp hw81 => ?_)
              generalize H1 = H at hw81 ⊢
              have hw82 : WD D A s.heap (WZ_VO cI cJ mv mr mi (va_up mf 15 g_16) mg) H locs := hw81
              obtain ⟨hp_83, hp_84⟩ := hp
              have hp_83 : 0 ≤ r_80.toInt := hp_83
              have hp_84 : r_80.toInt ≤ 1 := hp_84
              refine lv_if_eq (pc := 73) (tgt := 101) E.1 E.2.1 dX10_light_73 (by decide) (fun c_85 => ?_) (fun c_85 => ?_)
              · skip
                have hc_85 := eqE (a := r_80.toInt) (b := 0) rfl (by decide +kernel) c_85
                obtain ⟨v_86, ev_86⟩ : ∃ z : Int32, x_14 + Int32.ofInt (1) = z := ⟨_, rfl⟩
                have hv_86 : v_86.toInt = x_14.toInt + (1) := by rw [← ev_86]; exact incE rfl (by decide) (by omega)
                refine lv_iinc (pc := 101) (v := v_86) (lv' := [(5, .int v_86), (6, .int 1), (4, .int x_15), (3, .int r_5), (0, .ref (mr 0)), (1, .ref (mr 10)), (2, .int z_h)]) E.1 E.2.1 dX10_light_101 hl74 (k := 1) rfl ev_86 (by decide) rfl (fun ls hl87 => ?_)
                refine lv_goto (pc := 104) (tgt := 12) E.1 E.2.1 dX10_light_104 (by decide) ?_
                exact ih_17 v_86 x_15 g_16 _ _ _ ⟨(by show 0 ≤ v_86.toInt; omega), (by show v_86.toInt ≤ (mi 46).toInt; omega)⟩ (by omega) hw82 (lv_sub hl87 [0, 2, 3, 4, 5, 6] rfl)
              · skip
                have hc_85 := neE (a := r_80.toInt) (b := 0) rfl (by decide +kernel) c_85
                refine lv_iload (pc := 76) E.1 E.2.1 dX10_light_76 (lv_at hl74 0 rfl) ?_
                refine lv_if_eq (pc := 78) (tgt := 101) E.1 E.2.1 dX10_light_78 (by decide) (fun c_88 => absurd c_88 (mneE (a := 1) (b := 0) (by decide +kernel) (by decide +kernel) (by omega))) (fun _ => ?_)
                refine lv_aload_n (pc := 81) E.1 E.2.1 dX10_light_81 rfl (lv_at hl74 5 rfl) ?_
                refine x_get (pc := 82) (T := TX4) (N := 12) (ci := 4) (v := .ref (mr 15)) E hw82 inX4 6 4 q_206 rfl rfl (by decide) rfl rfl dX10_light_82 ?_
                refine lv_iload (pc := 85) E.1 E.2.1 dX10_light_85 (lv_at hl74 1 rfl) ?_
                refine lv_aload_n (pc := 87) E.1 E.2.1 dX10_light_87 rfl (lv_at hl74 5 rfl) ?_
                refine x_get (pc := 88) (T := TX4) (N := 12) (ci := 4) (v := .int (mi 18)) E hw82 inX4 6 7 q_220 rfl rfl (by decide) rfl rfl dX10_light_88 ?_
                refine x_iastG (pc := 91) (f := g_16) (wf := fun g => (WZ_VO cI cJ mv mr mi (va_up mf 15 g) mg)) E hw82 11 rfl (inbE (a := x_14.toInt) rfl (by omega)) (fun _ => rfl) dX10_light_91 (fun g_89 H locs eg_89 hw90 => ?_)
                refine lv_iload (pc := 92) E.1 E.2.1 dX10_light_92 (lv_at hl74 2 rfl) ?_
                refine lv_iconst (pc := 94) (v := 1) E.1 E.2.1 dX10_light_94 (by decide +kernel) ?_
                refine lv_iload (pc := 95) E.1 E.2.1 dX10_light_95 (lv_at hl74 1 rfl) ?_
                refine lv_ishl (pc := 97) E.1 E.2.1 dX10_light_97 ?_
                refine lv_topi (fun v_91 ev_91 => ?_)
                have hb1v_91 : 1 ≤ v_91.toInt ∧ v_91.toInt ≤ 512 := by rw [ev_91]; exact shl9 (by omega)
                refine lv_ior (pc := 98) E.1 E.2.1 dX10_light_98 ?_
                refine lv_topi (fun v_92 ev_92 => ?_)
                refine lv_istore (pc := 99) (lv' := [(4, .int v_92), (6, .int 1), (5, .int x_14), (3, .int r_5), (0, .ref (mr 0)), (1, .ref (mr 10)), (2, .int z_h)]) E.1 E.2.1 dX10_light_99 hl74 (by decide) rfl (fun ls hl93 => ?_)
                obtain ⟨v_94, ev_94⟩ : ∃ z : Int32, x_14 + Int32.ofInt (1) = z := ⟨_, rfl⟩
                have hv_94 : v_94.toInt = x_14.toInt + (1) := by rw [← ev_94]; exact incE rfl (by decide) (by omega)
                refine lv_iinc (pc := 101) (v := v_94) (lv' := [(5, .int v_94), (4, .int v_92), (6, .int 1), (3, .int r_5), (0, .ref (mr 0)), (1, .ref (mr 10)), (2, .int z_h)]) E.1 E.2.1 dX10_light_101 hl93 (k := 2) rfl ev_94 (by decide) rfl (fun ls hl95 => ?_)
                refine lv_goto (pc := 104) (tgt := 12) E.1 E.2.1 dX10_light_104 (by decide) ?_
                exact ih_17 v_94 v_92 g_89 _ _ _ ⟨(by show 0 ≤ v_94.toInt; omega), (by show v_94.toInt ≤ (mi 46).toInt; omega)⟩ (by omega) hw90 (lv_sub hl95 [0, 1, 3, 4, 5, 6] rfl)
  exact loop_13 (Int.toNat ((mi 46).toInt - 0) + 1) 0 0 (mf 15) _ _ _ ⟨(by show 0 ≤ (0 : Int32).toInt; have k_0 : (0 : Int32).toInt = 0 := (by decide +kernel); omega), (by show (0 : Int32).toInt ≤ (mi 46).toInt; have k_0 : (0 : Int32).toInt = 0 := (by decide +kernel); omega)⟩ (by have k_0 : (0 : Int32).toInt = 0 := (by decide +kernel); have k_1 : (0 : Int32).toInt = 0 := (by decide +kernel); omega) hw7 (lv_sub hl12 [0, 1, 2, 3, 4, 5] rfl)
set_option maxHeartbeats 4000000 in
set_option maxRecDepth 100000 in
theorem t_countOwed (l : Launch) (D : va_G) (cI cJ : ClassId) (sz : Nat) (mr : Nat → Nat) (mi : Nat → Int32) (mf : Nat → Nat → Int32) (mg : Nat → Nat → Int64)  (mv : Nat → Value) (h0 : 0 ≤ (mi 29).toInt ∧ (mi 29).toInt ≤ 10) (h1 : 0 ≤ (mi 37).toInt ∧ (mi 37).toInt ≤ 40) (h2 : 0 ≤ (mi 46).toInt ∧ (mi 46).toInt ≤ 10) : Met l yX10_countOwed (Cond.code yX10_countOwed cX10_countOwed 4 none :: GW) ({ frames := 2, cells := 0, slots := 0, locals := 61 } : Room) (va_Pc [.ref (mr 0), .ref (mr 10)] (PW D cI cJ sz (WZ_VO cI cJ mv mr mi mf mg) xT)) (va_Qv (fun (u : (Nat → Int32)) => True) (fun u => QW D cI cJ (va_A (WZ_VO cI cJ mv mr mi mf mg) sz) ((fun (u : (Nat → Int32)) => (WZ_VO cI cJ mv mr mi (va_up mf 12 u) mg)) u)) (va_A (WZ_VO cI cJ mv mr mi mf mg) sz)) 0 0 (va_A (WZ_VO cI cJ mv mr mi mf mg) sz) := by
  refine mk_met (y := yX10_countOwed) (bytes := cX10_countOwed) (maxL := 4) (avs := [.ref (mr 0), .ref (mr 10)]) (WS := (WZ_VO cI cJ mv mr mi mf mg)) (Qf := fun A => va_Qv (fun (u : (Nat → Int32)) => True) (fun u => QW D cI cJ A ((fun (u : (Nat → Int32)) => (WZ_VO cI cJ mv mr mi (va_up mf 12 u) mg)) u)) A) (by decide) (Nat.le_of_ble_eq_true rfl) ?_
  intro p e s m below meth c A ls E hr hlk hnm hX hw1 hl2
  have hl3 : lv_has ls 4 [(0, .ref (mr 0)), (1, .ref (mr 10))] := hl2
  refine lv_iconst (pc := 0) (v := 0) E.1 E.2.1 dX10_countOwed_0 (by decide +kernel) ?_
  refine lv_istore_n (pc := 1) (lv' := [(2, .int 0), (0, .ref (mr 0)), (1, .ref (mr 10))]) E.1 E.2.1 dX10_countOwed_1 rfl hl3 (by decide) rfl (fun ls hl4 => ?_)
  have loop_5 : ∀ (k : Nat) (x_6 : Int32) (g_7 : Nat → Int32) (H : Heap) (locs : List Loc) (ls : Array Slot), (0 ≤ x_6.toInt) ∧ (x_6.toInt ≤ (mi 29).toInt) → (mi 29).toInt - x_6.toInt < (k : Int) → WD D A s.heap (WZ_VO cI cJ mv mr mi (va_up mf 12 g_7) mg) H locs → lv_has ls 4 [(2, .int x_6), (0, .ref (mr 0)), (1, .ref (mr 10))] → W p l e ({ frames := 2, cells := 0, slots := 0, locals := 61 } : Room) s m ([.ref (mr 0), .ref (mr 10)] : List Value).toArray below meth c H locs 0 0 (MQ below (va_Qv (fun (u : (Nat → Int32)) => True) (fun u => QW D cI cJ A ((fun (u : (Nat → Int32)) => (WZ_VO cI cJ mv mr mi (va_up mf 12 u) mg)) u)) A) ([.ref (mr 0), .ref (mr 10)] : List Value).toArray s 0 0 A) (F0 m 2 ls []) := by
    intro k
    induction k with
    | zero =>
      intro x_6 g_7 _ _ _ hinv hm
      obtain ⟨hi_7_0, hi_7_1⟩ := hinv
      exact absurd hm (by omega)
    | succ k ih_8 =>
      intro x_6 g_7 H locs ls hinv hm hw9 hl10
      obtain ⟨hi_7_0, hi_7_1⟩ := hinv
      refine lv_iload_n (pc := 2) E.1 E.2.1 dX10_countOwed_2 rfl (lv_at hl10 0 rfl) ?_
      refine lv_aload_n (pc := 3) E.1 E.2.1 dX10_countOwed_3 rfl (lv_at hl10 1 rfl) ?_
      refine x_get (pc := 4) (T := TX10) (N := 17) (ci := 10) (v := .ref (mr 23)) E hw9 inX10 0 1 q_460 rfl rfl (by decide) rfl rfl dX10_countOwed_4 ?_
      refine x_get (pc := 7) (T := TX1) (N := 9) (ci := 1) (v := .int (mi 29)) E hw9 inX1 12 5 q_283 rfl rfl (by decide) rfl rfl dX10_countOwed_7 ?_
      refine lv_icmp_ge (pc := 10) (tgt := 64) E.1 E.2.1 dX10_countOwed_10 (by decide) (fun c_11 => ?_) (fun c_11 => ?_)
      · skip
        have hc_11 := leE (a := (mi 29).toInt) (b := x_6.toInt) rfl rfl c_11
        exact em_v (w1 := (fun (u : (Nat → Int32)) => (WZ_VO cI cJ mv mr mi (va_up mf 12 u) mg))) E hr hlk g_7 hw9 trivial (Nat.le_of_ble_eq_true rfl) (Nat.le_of_ble_eq_true rfl) dX10_countOwed_64
      · skip
        have hc_11 := nleE (a := (mi 29).toInt) (b := x_6.toInt) rfl rfl c_11
        refine lv_aload_n (pc := 13) E.1 E.2.1 dX10_countOwed_13 rfl (lv_at hl10 2 rfl) ?_
        refine lv_iload_n (pc := 14) E.1 E.2.1 dX10_countOwed_14 rfl (lv_at hl10 0 rfl) ?_
        refine ck_i (pc := 15) (ws' := (fun (u : Unit) => (WZ_VO cI cJ mv mr mi (va_up mf 12 g_7) mg))) [false, false, false, false, false, false, true, true, true, true, true, true, false, false, false, false, false, false, false, false, false, false, false, false, false, false, false, false, false, false, false, false, false, false, false, false, false, false, false, false, false, false, false, false, false, false, false, false, false, false] hw9 rfl (fun hC_ => (rn_V (As := [.int x_6]) (rest := []) E hw9 (t_waited l D cI cJ _ (shf 10 mr) (shf 10 mi) (shf 10 (va_up mf 12 g_7)) (shf 10 mg) x_6 (by show 0 ≤ x_6.toInt ∧ x_6.toInt ≤ 9; omega)) (gdV q_1036 q_1037 q_1038 q_153 q_1039) hdV_X4_waited ⟨rfl, rfl⟩ ⟨(Nat.le_of_ble_eq_true rfl), (Nat.le_of_ble_eq_true rfl)⟩ ⟨(Nat.le_of_ble_eq_true rfl), (Nat.le_of_ble_eq_true rfl)⟩ xT_b xT_at 6 4 rfl rfl rfl _ hC_ (nd_T _ 0) rfl hl10.1 rfl (Nat.le_of_ble_eq_true rfl) dX10_countOwed_15)) rfl (fun _ => rfl) (fun _ => rfl) (fun r_13 u_12 H1 locs hp hw14 => ?_)
        generalize H1 = H at hw14 ⊢
        have hw15 : WD D A s.heap (WZ_VO cI cJ mv mr mi (va_up mf 12 g_7) mg) H locs := hw14
        refine lv_istore_n (pc := 18) (lv' := [(3, .int r_13), (2, .int x_6), (0, .ref (mr 0)), (1, .ref (mr 10))]) E.1 E.2.1 dX10_countOwed_18 rfl hl10 (by decide) rfl (fun ls hl16 => ?_)
        refine lv_iload_n (pc := 19) E.1 E.2.1 dX10_countOwed_19 rfl (lv_at hl16 0 rfl) ?_
        refine lv_if_le (pc := 20) (tgt := 58) E.1 E.2.1 dX10_countOwed_20 (by decide) (fun c_17 => ?_) (fun c_17 => ?_)
        · skip
          have hc_17 := leE (a := r_13.toInt) (b := 0) rfl (by decide +kernel) c_17
          obtain ⟨v_18, ev_18⟩ : ∃ z : Int32, x_6 + Int32.ofInt (1) = z := ⟨_, rfl⟩
          have hv_18 : v_18.toInt = x_6.toInt + (1) := by rw [← ev_18]; exact incE rfl (by decide) (by omega)
          refine lv_iinc (pc := 58) (v := v_18) (lv' := [(2, .int v_18), (3, .int r_13), (0, .ref (mr 0)), (1, .ref (mr 10))]) E.1 E.2.1 dX10_countOwed_58 hl16 (k := 1) rfl ev_18 (by decide) rfl (fun ls hl19 => ?_)
          refine lv_goto (pc := 61) (tgt := 2) E.1 E.2.1 dX10_countOwed_61 (by decide) ?_
          exact ih_8 v_18 g_7 _ _ _ ⟨(by show 0 ≤ v_18.toInt; omega), (by show v_18.toInt ≤ (mi 29).toInt; omega)⟩ (by omega) hw15 (lv_sub hl19 [0, 2, 3] rfl)
        · skip
          have hc_17 := nleE (a := r_13.toInt) (b := 0) rfl (by decide +kernel) c_17
          refine lv_aload_n (pc := 23) E.1 E.2.1 dX10_countOwed_23 rfl (lv_at hl16 2 rfl) ?_
          refine x_get (pc := 24) (T := TX10) (N := 17) (ci := 10) (v := .int (mi 5)) E hw15 inX10 0 12 q_488 rfl rfl (by decide) rfl rfl dX10_countOwed_24 ?_
          refine lv_if_le (pc := 27) (tgt := 58) E.1 E.2.1 dX10_countOwed_27 (by decide) (fun c_20 => ?_) (fun c_20 => ?_)
          · skip
            have hc_20 := leE (a := (mi 5).toInt) (b := 0) rfl (by decide +kernel) c_20
            obtain ⟨v_21, ev_21⟩ : ∃ z : Int32, x_6 + Int32.ofInt (1) = z := ⟨_, rfl⟩
            have hv_21 : v_21.toInt = x_6.toInt + (1) := by rw [← ev_21]; exact incE rfl (by decide) (by omega)
            refine lv_iinc (pc := 58) (v := v_21) (lv' := [(2, .int v_21), (3, .int r_13), (0, .ref (mr 0)), (1, .ref (mr 10))]) E.1 E.2.1 dX10_countOwed_58 hl16 (k := 1) rfl ev_21 (by decide) rfl (fun ls hl22 => ?_)
            refine lv_goto (pc := 61) (tgt := 2) E.1 E.2.1 dX10_countOwed_61 (by decide) ?_
            exact ih_8 v_21 g_7 _ _ _ ⟨(by show 0 ≤ v_21.toInt; omega), (by show v_21.toInt ≤ (mi 29).toInt; omega)⟩ (by omega) hw15 (lv_sub hl22 [0, 2, 3] rfl)
          · skip
            have hc_20 := nleE (a := (mi 5).toInt) (b := 0) rfl (by decide +kernel) c_20
            refine lv_iload_n (pc := 30) E.1 E.2.1 dX10_countOwed_30 rfl (lv_at hl16 0 rfl) ?_
            refine lv_aload_n (pc := 31) E.1 E.2.1 dX10_countOwed_31 rfl (lv_at hl16 2 rfl) ?_
            refine x_get (pc := 32) (T := TX10) (N := 17) (ci := 10) (v := .int (mi 5)) E hw15 inX10 0 12 q_488 rfl rfl (by decide) rfl rfl dX10_countOwed_32 ?_
            refine lv_irem (pc := 35) E.1 E.2.1 dX10_countOwed_35 (mneE (a := (mi 5).toInt) (b := 0) rfl (by decide +kernel) (by omega)) ?_
            refine lv_topi (fun v_23 ev_23 => ?_)
            refine lv_if_ne (pc := 36) (tgt := 58) E.1 E.2.1 dX10_countOwed_36 (by decide) (fun c_24 => ?_) (fun c_24 => ?_)
            · skip
              have hc_24 := neE (a := v_23.toInt) (b := 0) rfl (by decide +kernel) c_24
              obtain ⟨v_25, ev_25⟩ : ∃ z : Int32, x_6 + Int32.ofInt (1) = z := ⟨_, rfl⟩
              have hv_25 : v_25.toInt = x_6.toInt + (1) := by rw [← ev_25]; exact incE rfl (by decide) (by omega)
              refine lv_iinc (pc := 58) (v := v_25) (lv' := [(2, .int v_25), (3, .int r_13), (0, .ref (mr 0)), (1, .ref (mr 10))]) E.1 E.2.1 dX10_countOwed_58 hl16 (k := 1) rfl ev_25 (by decide) rfl (fun ls hl26 => ?_)
              refine lv_goto (pc := 61) (tgt := 2) E.1 E.2.1 dX10_countOwed_61 (by decide) ?_
              exact ih_8 v_25 g_7 _ _ _ ⟨(by show 0 ≤ v_25.toInt; omega), (by show v_25.toInt ≤ (mi 29).toInt; omega)⟩ (by omega) hw15 (lv_sub hl26 [0, 2, 3] rfl)
            · skip
              have hc_24 := eqE (a := v_23.toInt) (b := 0) rfl (by decide +kernel) c_24
              refine lv_aload_n (pc := 39) E.1 E.2.1 dX10_countOwed_39 rfl (lv_at hl16 3 rfl) ?_
              refine x_get (pc := 40) (T := TX4) (N := 12) (ci := 4) (v := .ref (mr 12)) E hw15 inX4 6 1 q_195 rfl rfl (by decide) rfl rfl dX10_countOwed_40 ?_
              refine lv_iload_n (pc := 43) E.1 E.2.1 dX10_countOwed_43 rfl (lv_at hl16 1 rfl) ?_
              refine lv_bipush (pc := 44) (v := 99) E.1 E.2.1 dX10_countOwed_44 (by decide +kernel) ?_
              refine lv_aload_n (pc := 46) E.1 E.2.1 dX10_countOwed_46 rfl (lv_at hl16 3 rfl) ?_
              refine x_get (pc := 47) (T := TX4) (N := 12) (ci := 4) (v := .ref (mr 12)) E hw15 inX4 6 1 q_195 rfl rfl (by decide) rfl rfl dX10_countOwed_47 ?_
              refine lv_iload_n (pc := 50) E.1 E.2.1 dX10_countOwed_50 rfl (lv_at hl16 1 rfl) ?_
              refine x_iald (pc := 51) (f := g_7) E hw15 8 rfl (inbE (a := x_6.toInt) rfl (by omega)) dX10_countOwed_51 ?_
              refine lv_topi (fun v_27 ev_27 => ?_)
              refine lv_iconst (pc := 52) (v := 1) E.1 E.2.1 dX10_countOwed_52 (by decide +kernel) ?_
              refine lv_iadd (pc := 53) E.1 E.2.1 dX10_countOwed_53 ?_
              refine lv_topi (fun v_28 ev_28 => ?_)
              refine x_min (pc := 54) E hl16.1 q_1067 q_808 q_167 q_809 (Nat.le_of_ble_eq_true rfl) (Nat.le_of_ble_eq_true rfl) (Nat.le_of_ble_eq_true rfl) (Nat.le_of_ble_eq_true rfl) dX10_countOwed_54 (fun v_29 hv_29 => ?_)
              rw [show (99 : Int32).toInt = 99 from by decide +kernel] at hv_29
              have hv_29a : v_29.toInt ≤ 99 ∧ v_29.toInt ≤ v_28.toInt := by omega
              clear hv_29
              refine x_iastG (pc := 57) (f := g_7) (wf := fun g => (WZ_VO cI cJ mv mr mi (va_up mf 12 g) mg)) E hw15 8 rfl (inbE (a := x_6.toInt) rfl (by omega)) (fun _ => rfl) dX10_countOwed_57 (fun g_30 H locs eg_30 hw31 => ?_)
              obtain ⟨v_32, ev_32⟩ : ∃ z : Int32, x_6 + Int32.ofInt (1) = z := ⟨_, rfl⟩
              have hv_32 : v_32.toInt = x_6.toInt + (1) := by rw [← ev_32]; exact incE rfl (by decide) (by omega)
              refine lv_iinc (pc := 58) (v := v_32) (lv' := [(2, .int v_32), (3, .int r_13), (0, .ref (mr 0)), (1, .ref (mr 10))]) E.1 E.2.1 dX10_countOwed_58 hl16 (k := 1) rfl ev_32 (by decide) rfl (fun ls hl33 => ?_)
              refine lv_goto (pc := 61) (tgt := 2) E.1 E.2.1 dX10_countOwed_61 (by decide) ?_
              exact ih_8 v_32 g_30 _ _ _ ⟨(by show 0 ≤ v_32.toInt; omega), (by show v_32.toInt ≤ (mi 29).toInt; omega)⟩ (by omega) hw31 (lv_sub hl33 [0, 2, 3] rfl)
  exact loop_5 (Int.toNat ((mi 29).toInt - 0) + 1) 0 (mf 12) _ _ _ ⟨(by show 0 ≤ (0 : Int32).toInt; have k_0 : (0 : Int32).toInt = 0 := (by decide +kernel); omega), (by show (0 : Int32).toInt ≤ (mi 29).toInt; have k_0 : (0 : Int32).toInt = 0 := (by decide +kernel); omega)⟩ (by have k_0 : (0 : Int32).toInt = 0 := (by decide +kernel); omega) hw1 (lv_sub hl4 [0, 1, 2] rfl)
set_option maxHeartbeats 4000000 in
set_option maxRecDepth 100000 in
theorem t_spoilNeeds (l : Launch) (D : va_G) (cI cJ : ClassId) (sz : Nat) (mr : Nat → Nat) (mi : Nat → Int32) (mf : Nat → Nat → Int32) (mg : Nat → Nat → Int64)  (mv : Nat → Value) (h0 : 0 ≤ (mi 29).toInt ∧ (mi 29).toInt ≤ 10) (h1 : 0 ≤ (mi 37).toInt ∧ (mi 37).toInt ≤ 40) (h2 : 0 ≤ (mi 46).toInt ∧ (mi 46).toInt ≤ 10) : Met l yX10_spoilNeeds (Cond.code yX10_spoilNeeds cX10_spoilNeeds 3 none :: GW) ({ frames := 1, cells := 0, slots := 0, locals := 40 } : Room) (va_Pc [.ref (mr 0), .ref (mr 10)] (PW D cI cJ sz (WZ_VO cI cJ mv mr mi mf mg) xT)) (va_Qv (fun (u : Int32) => True) (fun u => QW D cI cJ (va_A (WZ_VO cI cJ mv mr mi mf mg) sz) ((fun (u : Int32) => (WZ_VO cI cJ mv mr (upd mi 16 u) mf mg)) u)) (va_A (WZ_VO cI cJ mv mr mi mf mg) sz)) 0 0 (va_A (WZ_VO cI cJ mv mr mi mf mg) sz) := by
  refine mk_met (y := yX10_spoilNeeds) (bytes := cX10_spoilNeeds) (maxL := 3) (avs := [.ref (mr 0), .ref (mr 10)]) (WS := (WZ_VO cI cJ mv mr mi mf mg)) (Qf := fun A => va_Qv (fun (u : Int32) => True) (fun u => QW D cI cJ A ((fun (u : Int32) => (WZ_VO cI cJ mv mr (upd mi 16 u) mf mg)) u)) A) (by decide) (Nat.le_of_ble_eq_true rfl) ?_
  intro p e s m below meth c A ls E hr hlk hnm hX hw1 hl2
  have hl3 : lv_has ls 3 [(0, .ref (mr 0)), (1, .ref (mr 10))] := hl2
  refine lv_iconst (pc := 0) (v := 0) E.1 E.2.1 dX10_spoilNeeds_0 (by decide +kernel) ?_
  refine lv_istore_n (pc := 1) (lv' := [(2, .int 0), (0, .ref (mr 0)), (1, .ref (mr 10))]) E.1 E.2.1 dX10_spoilNeeds_1 rfl hl3 (by decide) rfl (fun ls hl4 => ?_)
  have loop_5 : ∀ (k : Nat) (x_6 : Int32) (x_7 : Int32) (H : Heap) (locs : List Loc) (ls : Array Slot), (0 ≤ x_6.toInt) ∧ (x_6.toInt ≤ (mi 46).toInt) → (mi 46).toInt - x_6.toInt < (k : Int) → WD D A s.heap (WZ_VO cI cJ mv mr (upd mi 16 x_7) mf mg) H locs → lv_has ls 3 [(2, .int x_6), (0, .ref (mr 0)), (1, .ref (mr 10))] → W p l e ({ frames := 1, cells := 0, slots := 0, locals := 40 } : Room) s m ([.ref (mr 0), .ref (mr 10)] : List Value).toArray below meth c H locs 0 0 (MQ below (va_Qv (fun (u : Int32) => True) (fun u => QW D cI cJ A ((fun (u : Int32) => (WZ_VO cI cJ mv mr (upd mi 16 u) mf mg)) u)) A) ([.ref (mr 0), .ref (mr 10)] : List Value).toArray s 0 0 A) (F0 m 2 ls []) := by
    intro k
    induction k with
    | zero =>
      intro x_6 x_7 _ _ _ hinv hm
      obtain ⟨hi_7_0, hi_7_1⟩ := hinv
      exact absurd hm (by omega)
    | succ k ih_8 =>
      intro x_6 x_7 H locs ls hinv hm hw9 hl10
      obtain ⟨hi_7_0, hi_7_1⟩ := hinv
      refine lv_iload_n (pc := 2) E.1 E.2.1 dX10_spoilNeeds_2 rfl (lv_at hl10 0 rfl) ?_
      refine lv_aload_n (pc := 3) E.1 E.2.1 dX10_spoilNeeds_3 rfl (lv_at hl10 1 rfl) ?_
      refine x_get (pc := 4) (T := TX10) (N := 17) (ci := 10) (v := .ref (mr 40)) E hw9 inX10 0 3 q_467 rfl rfl (by decide) rfl rfl dX10_spoilNeeds_4 ?_
      refine x_get (pc := 7) (T := TX3) (N := 6) (ci := 3) (v := .int (mi 46)) E hw9 inX3 27 5 q_364 rfl rfl (by decide) rfl rfl dX10_spoilNeeds_7 ?_
      refine lv_icmp_ge (pc := 10) (tgt := 57) E.1 E.2.1 dX10_spoilNeeds_10 (by decide) (fun c_11 => ?_) (fun c_11 => ?_)
      · skip
        have hc_11 := leE (a := (mi 46).toInt) (b := x_6.toInt) rfl rfl c_11
        exact em_v (w1 := (fun (u : Int32) => (WZ_VO cI cJ mv mr (upd mi 16 u) mf mg))) E hr hlk x_7 hw9 trivial (Nat.le_of_ble_eq_true rfl) (Nat.le_of_ble_eq_true rfl) dX10_spoilNeeds_57
      · skip
        have hc_11 := nleE (a := (mi 46).toInt) (b := x_6.toInt) rfl rfl c_11
        refine lv_aload_n (pc := 13) E.1 E.2.1 dX10_spoilNeeds_13 rfl (lv_at hl10 1 rfl) ?_
        refine x_get (pc := 14) (T := TX10) (N := 17) (ci := 10) (v := .ref (mr 40)) E hw9 inX10 0 3 q_467 rfl rfl (by decide) rfl rfl dX10_spoilNeeds_14 ?_
        refine x_get (pc := 17) (T := TX3) (N := 6) (ci := 3) (v := .ref (mr 44)) E hw9 inX3 27 3 q_356 rfl rfl (by decide) rfl rfl dX10_spoilNeeds_17 ?_
        refine lv_iload_n (pc := 20) E.1 E.2.1 dX10_spoilNeeds_20 rfl (lv_at hl10 0 rfl) ?_
        refine x_iald (pc := 21) (f := (mf 44)) E hw9 31 rfl (inbE (a := x_6.toInt) rfl (by omega)) dX10_spoilNeeds_21 ?_
        refine lv_topi (fun v_12 ev_12 => ?_)
        refine lv_aload_n (pc := 22) E.1 E.2.1 dX10_spoilNeeds_22 rfl (lv_at hl10 2 rfl) ?_
        refine x_get (pc := 23) (T := TX4) (N := 12) (ci := 4) (v := .int (mi 18)) E hw9 inX4 6 7 q_220 rfl rfl (by decide) rfl rfl dX10_spoilNeeds_23 ?_
        refine lv_icmp_ne (pc := 26) (tgt := 51) E.1 E.2.1 dX10_spoilNeeds_26 (by decide) (fun c_13 => ?_) (fun c_13 => ?_)
        · skip
          have hc_13 := neE (a := v_12.toInt) (b := (mi 18).toInt) rfl rfl c_13
          obtain ⟨v_14, ev_14⟩ : ∃ z : Int32, x_6 + Int32.ofInt (1) = z := ⟨_, rfl⟩
          have hv_14 : v_14.toInt = x_6.toInt + (1) := by rw [← ev_14]; exact incE rfl (by decide) (by omega)
          refine lv_iinc (pc := 51) (v := v_14) (lv' := [(2, .int v_14), (0, .ref (mr 0)), (1, .ref (mr 10))]) E.1 E.2.1 dX10_spoilNeeds_51 hl10 (k := 0) rfl ev_14 (by decide) rfl (fun ls hl15 => ?_)
          refine lv_goto (pc := 54) (tgt := 2) E.1 E.2.1 dX10_spoilNeeds_54 (by decide) ?_
          exact ih_8 v_14 x_7 _ _ _ ⟨(by show 0 ≤ v_14.toInt; omega), (by show v_14.toInt ≤ (mi 46).toInt; omega)⟩ (by omega) hw9 (lv_sub hl15 [0, 1, 2] rfl)
        · skip
          have hc_13 := eqE (a := v_12.toInt) (b := (mi 18).toInt) rfl rfl c_13
          refine lv_aload_n (pc := 29) E.1 E.2.1 dX10_spoilNeeds_29 rfl (lv_at hl10 2 rfl) ?_
          refine x_get (pc := 30) (T := TX4) (N := 12) (ci := 4) (v := .ref (mr 15)) E hw9 inX4 6 4 q_206 rfl rfl (by decide) rfl rfl dX10_spoilNeeds_30 ?_
          refine lv_iload_n (pc := 33) E.1 E.2.1 dX10_spoilNeeds_33 rfl (lv_at hl10 0 rfl) ?_
          refine x_iald (pc := 34) (f := (mf 15)) E hw9 11 rfl (inbE (a := x_6.toInt) rfl (by omega)) dX10_spoilNeeds_34 ?_
          refine lv_topi (fun v_16 ev_16 => ?_)
          refine lv_iconst (pc := 35) (v := (-1)) E.1 E.2.1 dX10_spoilNeeds_35 (by decide +kernel) ?_
          refine lv_icmp_ne (pc := 36) (tgt := 51) E.1 E.2.1 dX10_spoilNeeds_36 (by decide) (fun c_17 => ?_) (fun c_17 => ?_)
          · skip
            have hc_17 := neE (a := v_16.toInt) (b := (-1)) rfl (by decide +kernel) c_17
            obtain ⟨v_18, ev_18⟩ : ∃ z : Int32, x_6 + Int32.ofInt (1) = z := ⟨_, rfl⟩
            have hv_18 : v_18.toInt = x_6.toInt + (1) := by rw [← ev_18]; exact incE rfl (by decide) (by omega)
            refine lv_iinc (pc := 51) (v := v_18) (lv' := [(2, .int v_18), (0, .ref (mr 0)), (1, .ref (mr 10))]) E.1 E.2.1 dX10_spoilNeeds_51 hl10 (k := 0) rfl ev_18 (by decide) rfl (fun ls hl19 => ?_)
            refine lv_goto (pc := 54) (tgt := 2) E.1 E.2.1 dX10_spoilNeeds_54 (by decide) ?_
            exact ih_8 v_18 x_7 _ _ _ ⟨(by show 0 ≤ v_18.toInt; omega), (by show v_18.toInt ≤ (mi 46).toInt; omega)⟩ (by omega) hw9 (lv_sub hl19 [0, 1, 2] rfl)
          · skip
            have hc_17 := eqE (a := v_16.toInt) (b := (-1)) rfl (by decide +kernel) c_17
            refine lv_aload_n (pc := 39) E.1 E.2.1 dX10_spoilNeeds_39 rfl (lv_at hl10 2 rfl) ?_
            refine lv_dup (pc := 40) E.1 E.2.1 dX10_spoilNeeds_40 rfl ?_
            refine x_get (pc := 41) (T := TX4) (N := 12) (ci := 4) (v := .int x_7) E hw9 inX4 6 5 q_211 rfl rfl (by decide) rfl rfl dX10_spoilNeeds_41 ?_
            refine lv_iconst (pc := 44) (v := 1) E.1 E.2.1 dX10_spoilNeeds_44 (by decide +kernel) ?_
            refine lv_iload_n (pc := 45) E.1 E.2.1 dX10_spoilNeeds_45 rfl (lv_at hl10 0 rfl) ?_
            refine lv_ishl (pc := 46) E.1 E.2.1 dX10_spoilNeeds_46 ?_
            refine lv_topi (fun v_20 ev_20 => ?_)
            have hb1v_20 : 1 ≤ v_20.toInt ∧ v_20.toInt ≤ 512 := by rw [ev_20]; exact shl9 (by omega)
            refine lv_ior (pc := 47) E.1 E.2.1 dX10_spoilNeeds_47 ?_
            refine lv_topi (fun v_21 ev_21 => ?_)
            refine x_put (pc := 48) (T := TX4) (N := 12) (ci := 4) (ws' := (WZ_VO cI cJ mv mr (upd mi 16 v_21) mf mg)) E hw9 inX4 tyX4_ok nmX4 6 5 q_211 rfl rfl (by decide) rfl rfl rfl rfl (Nat.le_of_ble_eq_true rfl) rfl dX10_spoilNeeds_48 (fun H locs hw22 => ?_)
            obtain ⟨v_23, ev_23⟩ : ∃ z : Int32, x_6 + Int32.ofInt (1) = z := ⟨_, rfl⟩
            have hv_23 : v_23.toInt = x_6.toInt + (1) := by rw [← ev_23]; exact incE rfl (by decide) (by omega)
            refine lv_iinc (pc := 51) (v := v_23) (lv' := [(2, .int v_23), (0, .ref (mr 0)), (1, .ref (mr 10))]) E.1 E.2.1 dX10_spoilNeeds_51 hl10 (k := 0) rfl ev_23 (by decide) rfl (fun ls hl24 => ?_)
            refine lv_goto (pc := 54) (tgt := 2) E.1 E.2.1 dX10_spoilNeeds_54 (by decide) ?_
            exact ih_8 v_23 v_21 _ _ _ ⟨(by show 0 ≤ v_23.toInt; omega), (by show v_23.toInt ≤ (mi 46).toInt; omega)⟩ (by omega) hw22 (lv_sub hl24 [0, 1, 2] rfl)
  exact loop_5 (Int.toNat ((mi 46).toInt - 0) + 1) 0 (mi 16) _ _ _ ⟨(by show 0 ≤ (0 : Int32).toInt; have k_0 : (0 : Int32).toInt = 0 := (by decide +kernel); omega), (by show (0 : Int32).toInt ≤ (mi 46).toInt; have k_0 : (0 : Int32).toInt = 0 := (by decide +kernel); omega)⟩ (by have k_0 : (0 : Int32).toInt = 0 := (by decide +kernel); omega) hw1 (lv_sub hl4 [0, 1, 2] rfl)
set_option maxHeartbeats 4000000 in
set_option maxRecDepth 100000 in
theorem t_writeLine (l : Launch) (D : va_G) (cI cJ : ClassId) (sz : Nat) (mr : Nat → Nat) (mi : Nat → Int32) (mf : Nat → Nat → Int32) (mg : Nat → Nat → Int64) (z_lit : Int32) (z_burnt : Int32) (z_done : Int32) (mv : Nat → Value)  : Met l yX10_writeLine (Cond.code yX10_writeLine cX10_writeLine 6 none :: GW) ({ frames := 1, cells := 0, slots := 0, locals := 40 } : Room) (va_Pc [.ref (mr 0), .ref (mr 10), .int z_lit, .int z_burnt, .int z_done] (PW D cI cJ sz (WZ_VO cI cJ mv mr mi mf mg) xT)) (va_Qv (fun (u : (Nat → Int32) × Int32) => True) (fun u => QW D cI cJ (va_A (WZ_VO cI cJ mv mr mi mf mg) sz) ((fun (u : (Nat → Int32) × Int32) => (WZ_VO cI cJ mv mr (upd mi 22 u.2) (va_up mf 1 u.1) mg)) u)) (va_A (WZ_VO cI cJ mv mr mi mf mg) sz)) 0 0 (va_A (WZ_VO cI cJ mv mr mi mf mg) sz) := by
  refine mk_met (y := yX10_writeLine) (bytes := cX10_writeLine) (maxL := 6) (avs := [.ref (mr 0), .ref (mr 10), .int z_lit, .int z_burnt, .int z_done]) (WS := (WZ_VO cI cJ mv mr mi mf mg)) (Qf := fun A => va_Qv (fun (u : (Nat → Int32) × Int32) => True) (fun u => QW D cI cJ A ((fun (u : (Nat → Int32) × Int32) => (WZ_VO cI cJ mv mr (upd mi 22 u.2) (va_up mf 1 u.1) mg)) u)) A) (by decide) (Nat.le_of_ble_eq_true rfl) ?_
  intro p e s m below meth c A ls E hr hlk hnm hX hw1 hl2
  have hl3 : lv_has ls 6 [(0, .ref (mr 0)), (1, .ref (mr 10)), (2, .int z_lit), (3, .int z_burnt), (4, .int z_done)] := hl2
  refine lv_aload_n (pc := 0) E.1 E.2.1 dX10_writeLine_0 rfl (lv_at hl3 1 rfl) ?_
  refine x_get (pc := 1) (T := TX4) (N := 12) (ci := 4) (v := .int (mi 22)) E hw1 inX4 6 11 q_232 rfl rfl (by decide) rfl rfl dX10_writeLine_1 ?_
  refine lv_if_lt (pc := 4) (tgt := 17) E.1 E.2.1 dX10_writeLine_4 (by decide) (fun c_4 => ?_) (fun c_4 => ?_)
  · skip
    have hc_4 := ltE (a := (mi 22).toInt) (b := 0) rfl (by decide +kernel) c_4
    exact em_v (w1 := (fun (u : (Nat → Int32) × Int32) => (WZ_VO cI cJ mv mr (upd mi 22 u.2) (va_up mf 1 u.1) mg))) E hr hlk ((mf 1), (mi 22)) hw1 trivial (Nat.le_of_ble_eq_true rfl) (Nat.le_of_ble_eq_true rfl) dX10_writeLine_17
  · skip
    have hc_4 := nltE (a := (mi 22).toInt) (b := 0) rfl (by decide +kernel) c_4
    refine lv_aload_n (pc := 7) E.1 E.2.1 dX10_writeLine_7 rfl (lv_at hl3 1 rfl) ?_
    refine x_get (pc := 8) (T := TX4) (N := 12) (ci := 4) (v := .int (mi 22)) E hw1 inX4 6 11 q_232 rfl rfl (by decide) rfl rfl dX10_writeLine_8 ?_
    refine lv_sipush (pc := 11) (v := 150) E.1 E.2.1 dX10_writeLine_11 (by decide +kernel) ?_
    refine lv_icmp_lt (pc := 14) (tgt := 18) E.1 E.2.1 dX10_writeLine_14 (by decide) (fun c_5 => ?_) (fun c_5 => ?_)
    · skip
      have hc_5 := ltE (a := (mi 22).toInt) (b := 150) rfl (by decide +kernel) c_5
      refine lv_aload_n (pc := 18) E.1 E.2.1 dX10_writeLine_18 rfl (lv_at hl3 1 rfl) ?_
      refine x_get (pc := 19) (T := TX4) (N := 12) (ci := 4) (v := .int (mi 22)) E hw1 inX4 6 11 q_232 rfl rfl (by decide) rfl rfl dX10_writeLine_19 ?_
      refine lv_bipush (pc := 22) (v := 6) E.1 E.2.1 dX10_writeLine_22 (by decide +kernel) ?_
      refine lv_imul (pc := 24) E.1 E.2.1 dX10_writeLine_24 ?_
      refine lv_topi (fun v_6 ev_6 => ?_)
      have hv_6 : v_6.toInt = (mi 22).toInt * 6 := by rw [ev_6]; exact mulE rfl (by decide +kernel) (by omega)
      refine lv_istore (pc := 25) (lv' := [(5, .int v_6), (0, .ref (mr 0)), (1, .ref (mr 10)), (2, .int z_lit), (3, .int z_burnt), (4, .int z_done)]) E.1 E.2.1 dX10_writeLine_25 hl3 (by decide) rfl (fun ls hl7 => ?_)
      refine lv_aload_n (pc := 27) E.1 E.2.1 dX10_writeLine_27 rfl (lv_at hl7 1 rfl) ?_
      refine x_get (pc := 28) (T := TX10) (N := 17) (ci := 10) (v := .ref (mr 1)) E hw1 inX10 0 8 q_479 rfl rfl (by decide) rfl rfl dX10_writeLine_28 ?_
      refine lv_iload (pc := 31) E.1 E.2.1 dX10_writeLine_31 (lv_at hl7 0 rfl) ?_
      refine lv_aload_n (pc := 33) E.1 E.2.1 dX10_writeLine_33 rfl (lv_at hl7 2 rfl) ?_
      refine x_get (pc := 34) (T := TX4) (N := 12) (ci := 4) (v := .int (mi 18)) E hw1 inX4 6 7 q_220 rfl rfl (by decide) rfl rfl dX10_writeLine_34 ?_
      refine x_iastG (pc := 37) (f := (mf 1)) (wf := fun g => (WZ_VO cI cJ mv mr mi (va_up mf 1 g) mg)) E hw1 1 rfl (inbE (a := v_6.toInt) rfl (by omega)) (fun _ => rfl) dX10_writeLine_37 (fun g_8 H locs eg_8 hw9 => ?_)
      refine lv_aload_n (pc := 38) E.1 E.2.1 dX10_writeLine_38 rfl (lv_at hl7 1 rfl) ?_
      refine x_get (pc := 39) (T := TX10) (N := 17) (ci := 10) (v := .ref (mr 1)) E hw9 inX10 0 8 q_479 rfl rfl (by decide) rfl rfl dX10_writeLine_39 ?_
      refine lv_iload (pc := 42) E.1 E.2.1 dX10_writeLine_42 (lv_at hl7 0 rfl) ?_
      refine lv_iconst (pc := 44) (v := 1) E.1 E.2.1 dX10_writeLine_44 (by decide +kernel) ?_
      refine lv_iadd (pc := 45) E.1 E.2.1 dX10_writeLine_45 ?_
      refine lv_topi (fun v_10 ev_10 => ?_)
      have hv_10 : v_10.toInt = v_6.toInt + 1 := by rw [ev_10]; exact addE rfl (by decide +kernel) (by omega)
      refine lv_aload_n (pc := 46) E.1 E.2.1 dX10_writeLine_46 rfl (lv_at hl7 2 rfl) ?_
      refine x_get (pc := 47) (T := TX4) (N := 12) (ci := 4) (v := .int (mi 17)) E hw9 inX4 6 6 q_215 rfl rfl (by decide) rfl rfl dX10_writeLine_47 ?_
      refine x_iastG (pc := 50) (f := g_8) (wf := fun g => (WZ_VO cI cJ mv mr mi (va_up mf 1 g) mg)) E hw9 1 rfl (inbE (a := v_10.toInt) rfl (by omega)) (fun _ => rfl) dX10_writeLine_50 (fun g_11 H locs eg_11 hw12 => ?_)
      refine lv_aload_n (pc := 51) E.1 E.2.1 dX10_writeLine_51 rfl (lv_at hl7 1 rfl) ?_
      refine x_get (pc := 52) (T := TX10) (N := 17) (ci := 10) (v := .ref (mr 1)) E hw12 inX10 0 8 q_479 rfl rfl (by decide) rfl rfl dX10_writeLine_52 ?_
      refine lv_iload (pc := 55) E.1 E.2.1 dX10_writeLine_55 (lv_at hl7 0 rfl) ?_
      refine lv_iconst (pc := 57) (v := 2) E.1 E.2.1 dX10_writeLine_57 (by decide +kernel) ?_
      refine lv_iadd (pc := 58) E.1 E.2.1 dX10_writeLine_58 ?_
      refine lv_topi (fun v_13 ev_13 => ?_)
      have hv_13 : v_13.toInt = v_6.toInt + 2 := by rw [ev_13]; exact addE rfl (by decide +kernel) (by omega)
      refine lv_iload_n (pc := 59) E.1 E.2.1 dX10_writeLine_59 rfl (lv_at hl7 3 rfl) ?_
      refine x_iastG (pc := 60) (f := g_11) (wf := fun g => (WZ_VO cI cJ mv mr mi (va_up mf 1 g) mg)) E hw12 1 rfl (inbE (a := v_13.toInt) rfl (by omega)) (fun _ => rfl) dX10_writeLine_60 (fun g_14 H locs eg_14 hw15 => ?_)
      refine lv_aload_n (pc := 61) E.1 E.2.1 dX10_writeLine_61 rfl (lv_at hl7 1 rfl) ?_
      refine x_get (pc := 62) (T := TX10) (N := 17) (ci := 10) (v := .ref (mr 1)) E hw15 inX10 0 8 q_479 rfl rfl (by decide) rfl rfl dX10_writeLine_62 ?_
      refine lv_iload (pc := 65) E.1 E.2.1 dX10_writeLine_65 (lv_at hl7 0 rfl) ?_
      refine lv_iconst (pc := 67) (v := 3) E.1 E.2.1 dX10_writeLine_67 (by decide +kernel) ?_
      refine lv_iadd (pc := 68) E.1 E.2.1 dX10_writeLine_68 ?_
      refine lv_topi (fun v_16 ev_16 => ?_)
      have hv_16 : v_16.toInt = v_6.toInt + 3 := by rw [ev_16]; exact addE rfl (by decide +kernel) (by omega)
      refine lv_iload_n (pc := 69) E.1 E.2.1 dX10_writeLine_69 rfl (lv_at hl7 4 rfl) ?_
      refine x_iastG (pc := 70) (f := g_14) (wf := fun g => (WZ_VO cI cJ mv mr mi (va_up mf 1 g) mg)) E hw15 1 rfl (inbE (a := v_16.toInt) rfl (by omega)) (fun _ => rfl) dX10_writeLine_70 (fun g_17 H locs eg_17 hw18 => ?_)
      refine lv_aload_n (pc := 71) E.1 E.2.1 dX10_writeLine_71 rfl (lv_at hl7 1 rfl) ?_
      refine x_get (pc := 72) (T := TX10) (N := 17) (ci := 10) (v := .ref (mr 1)) E hw18 inX10 0 8 q_479 rfl rfl (by decide) rfl rfl dX10_writeLine_72 ?_
      refine lv_iload (pc := 75) E.1 E.2.1 dX10_writeLine_75 (lv_at hl7 0 rfl) ?_
      refine lv_iconst (pc := 77) (v := 4) E.1 E.2.1 dX10_writeLine_77 (by decide +kernel) ?_
      refine lv_iadd (pc := 78) E.1 E.2.1 dX10_writeLine_78 ?_
      refine lv_topi (fun v_19 ev_19 => ?_)
      have hv_19 : v_19.toInt = v_6.toInt + 4 := by rw [ev_19]; exact addE rfl (by decide +kernel) (by omega)
      refine lv_aload_n (pc := 79) E.1 E.2.1 dX10_writeLine_79 rfl (lv_at hl7 2 rfl) ?_
      refine x_get (pc := 80) (T := TX4) (N := 12) (ci := 4) (v := .int (mi 19)) E hw18 inX4 6 8 q_223 rfl rfl (by decide) rfl rfl dX10_writeLine_80 ?_
      refine x_iastG (pc := 83) (f := g_17) (wf := fun g => (WZ_VO cI cJ mv mr mi (va_up mf 1 g) mg)) E hw18 1 rfl (inbE (a := v_19.toInt) rfl (by omega)) (fun _ => rfl) dX10_writeLine_83 (fun g_20 H locs eg_20 hw21 => ?_)
      refine lv_aload_n (pc := 84) E.1 E.2.1 dX10_writeLine_84 rfl (lv_at hl7 1 rfl) ?_
      refine x_get (pc := 85) (T := TX10) (N := 17) (ci := 10) (v := .ref (mr 1)) E hw21 inX10 0 8 q_479 rfl rfl (by decide) rfl rfl dX10_writeLine_85 ?_
      refine lv_iload (pc := 88) E.1 E.2.1 dX10_writeLine_88 (lv_at hl7 0 rfl) ?_
      refine lv_iconst (pc := 90) (v := 5) E.1 E.2.1 dX10_writeLine_90 (by decide +kernel) ?_
      refine lv_iadd (pc := 91) E.1 E.2.1 dX10_writeLine_91 ?_
      refine lv_topi (fun v_22 ev_22 => ?_)
      have hv_22 : v_22.toInt = v_6.toInt + 5 := by rw [ev_22]; exact addE rfl (by decide +kernel) (by omega)
      refine lv_iload (pc := 92) E.1 E.2.1 dX10_writeLine_92 (lv_at hl7 5 rfl) ?_
      refine x_iastG (pc := 94) (f := g_20) (wf := fun g => (WZ_VO cI cJ mv mr mi (va_up mf 1 g) mg)) E hw21 1 rfl (inbE (a := v_22.toInt) rfl (by omega)) (fun _ => rfl) dX10_writeLine_94 (fun g_23 H locs eg_23 hw24 => ?_)
      refine lv_aload_n (pc := 95) E.1 E.2.1 dX10_writeLine_95 rfl (lv_at hl7 2 rfl) ?_
      refine lv_dup (pc := 96) E.1 E.2.1 dX10_writeLine_96 rfl ?_
      refine x_get (pc := 97) (T := TX4) (N := 12) (ci := 4) (v := .int (mi 22)) E hw24 inX4 6 11 q_232 rfl rfl (by decide) rfl rfl dX10_writeLine_97 ?_
      refine lv_iconst (pc := 100) (v := 1) E.1 E.2.1 dX10_writeLine_100 (by decide +kernel) ?_
      refine lv_iadd (pc := 101) E.1 E.2.1 dX10_writeLine_101 ?_
      refine lv_topi (fun v_25 ev_25 => ?_)
      have hv_25 : v_25.toInt = (mi 22).toInt + 1 := by rw [ev_25]; exact addE rfl (by decide +kernel) (by omega)
      refine x_put (pc := 102) (T := TX4) (N := 12) (ci := 4) (ws' := (WZ_VO cI cJ mv mr (upd mi 22 v_25) (va_up mf 1 g_23) mg)) E hw24 inX4 tyX4_ok nmX4 6 11 q_232 rfl rfl (by decide) rfl rfl rfl rfl (Nat.le_of_ble_eq_true rfl) rfl dX10_writeLine_102 (fun H locs hw26 => ?_)
      exact em_v (w1 := (fun (u : (Nat → Int32) × Int32) => (WZ_VO cI cJ mv mr (upd mi 22 u.2) (va_up mf 1 u.1) mg))) E hr hlk (g_23, v_25) hw26 trivial (Nat.le_of_ble_eq_true rfl) (Nat.le_of_ble_eq_true rfl) dX10_writeLine_105
    · skip
      have hc_5 := nltE (a := (mi 22).toInt) (b := 150) rfl (by decide +kernel) c_5
      exact em_v (w1 := (fun (u : (Nat → Int32) × Int32) => (WZ_VO cI cJ mv mr (upd mi 22 u.2) (va_up mf 1 u.1) mg))) E hr hlk ((mf 1), (mi 22)) hw1 trivial (Nat.le_of_ble_eq_true rfl) (Nat.le_of_ble_eq_true rfl) dX10_writeLine_17
set_option maxHeartbeats 4000000 in
set_option maxRecDepth 100000 in
theorem t_drawSnow (l : Launch) (D : va_G) (cI cJ : ClassId) (sz : Nat) (mr : Nat → Nat) (mi : Nat → Int32) (mf : Nat → Nat → Int32) (mg : Nat → Nat → Int64)  (mv : Nat → Value)  : Met l yX10_drawSnow (Cond.code yX10_drawSnow cX10_drawSnow 2 none :: GW) ({ frames := 2, cells := 0, slots := 0, locals := 61 } : Room) (va_Pc [.ref (mr 0), .ref (mr 10)] (PW D cI cJ sz (WZ_VO cI cJ mv mr mi mf mg) xT)) (va_Qv (fun (u : Int32 × Int32) => True) (fun u => QW D cI cJ (va_A (WZ_VO cI cJ mv mr mi mf mg) sz) ((fun (u : Int32 × Int32) => (WZ_VO cI cJ mv mr (upd (upd mi 20 u.1) 19 u.2) mf mg)) u)) (va_A (WZ_VO cI cJ mv mr mi mf mg) sz)) 0 0 (va_A (WZ_VO cI cJ mv mr mi mf mg) sz) := by
  refine mk_met (y := yX10_drawSnow) (bytes := cX10_drawSnow) (maxL := 2) (avs := [.ref (mr 0), .ref (mr 10)]) (WS := (WZ_VO cI cJ mv mr mi mf mg)) (Qf := fun A => va_Qv (fun (u : Int32 × Int32) => True) (fun u => QW D cI cJ A ((fun (u : Int32 × Int32) => (WZ_VO cI cJ mv mr (upd (upd mi 20 u.1) 19 u.2) mf mg)) u)) A) (by decide) (Nat.le_of_ble_eq_true rfl) ?_
  intro p e s m below meth c A ls E hr hlk hnm hX hw1 hl2
  have hl3 : lv_has ls 2 [(0, .ref (mr 0)), (1, .ref (mr 10))] := hl2
  refine lv_aload_n (pc := 0) E.1 E.2.1 dX10_drawSnow_0 rfl (lv_at hl3 0 rfl) ?_
  refine x_get (pc := 1) (T := TX10) (N := 17) (ci := 10) (v := .int (mi 2)) E hw1 inX10 0 9 q_481 rfl rfl (by decide) rfl rfl dX10_drawSnow_1 ?_
  refine lv_if_gt (pc := 4) (tgt := 8) E.1 E.2.1 dX10_drawSnow_4 (by decide) (fun c_4 => ?_) (fun c_4 => ?_)
  · skip
    have hc_4 := ltE (a := 0) (b := (mi 2).toInt) (by decide +kernel) rfl c_4
    refine lv_aload_n (pc := 8) E.1 E.2.1 dX10_drawSnow_8 rfl (lv_at hl3 1 rfl) ?_
    refine lv_sipush (pc := 9) (v := 1000) E.1 E.2.1 dX10_drawSnow_9 (by decide +kernel) ?_
    refine ck_i (pc := 12) (ws' := (fun (u : Int32) => (WZ_VO cI cJ mv mr (upd mi 20 u) mf mg))) [false, false, false, false, false, false, true, true, true, true, true, true, false, false, false, false, false, false, false, false, false, false, false, false, false, false, false, false, false, false, false, false, false, false, false, false, false, false, false, false, false, false, false, false, false, false, false, false, false, false] hw1 rfl (fun hC_ => (rn_V (As := [.int 1000]) (rest := []) E hw1 (t_draw l D cI cJ _ (shf 10 mr) (shf 10 mi) (shf 10 mf) (shf 10 mg) 1000) (gdV q_1094 q_1095 q_1096 q_153 q_1097) hdV_X4_draw ⟨rfl, rfl⟩ ⟨(Nat.le_of_ble_eq_true rfl), (Nat.le_of_ble_eq_true rfl)⟩ ⟨(Nat.le_of_ble_eq_true rfl), (Nat.le_of_ble_eq_true rfl)⟩ xT_b xT_at 6 4 rfl rfl rfl _ hC_ (nd_T _ 0) rfl hl3.1 rfl (Nat.le_of_ble_eq_true rfl) dX10_drawSnow_12)) rfl (fun _ => rfl) (fun _ => rfl) (fun r_6 u_5 H1 locs hp hw7 => ?_)
    obtain ⟨ndraws_8, rfl⟩ : ∃ z, z = u_5 := ⟨_, rfl⟩
    generalize H1 = H at hw7 ⊢
    have hw9 : WD D A s.heap (WZ_VO cI cJ mv mr (upd mi 20 ndraws_8) mf mg) H locs := hw7
    refine lv_aload_n (pc := 15) E.1 E.2.1 dX10_drawSnow_15 rfl (lv_at hl3 0 rfl) ?_
    refine x_get (pc := 16) (T := TX10) (N := 17) (ci := 10) (v := .int (mi 2)) E hw9 inX10 0 9 q_481 rfl rfl (by decide) rfl rfl dX10_drawSnow_16 ?_
    refine lv_icmp_ge (pc := 19) (tgt := 40) E.1 E.2.1 dX10_drawSnow_19 (by decide) (fun c_10 => ?_) (fun c_10 => ?_)
    · skip
      have hc_10 := leE (a := (mi 2).toInt) (b := r_6.toInt) rfl rfl c_10
      refine lv_aload_n (pc := 40) E.1 E.2.1 dX10_drawSnow_40 rfl (lv_at hl3 1 rfl) ?_
      refine lv_iconst (pc := 41) (v := 0) E.1 E.2.1 dX10_drawSnow_41 (by decide +kernel) ?_
      refine lv_aload_n (pc := 42) E.1 E.2.1 dX10_drawSnow_42 rfl (lv_at hl3 1 rfl) ?_
      refine x_get (pc := 43) (T := TX4) (N := 12) (ci := 4) (v := .int (mi 19)) E hw9 inX4 6 8 q_223 rfl rfl (by decide) rfl rfl dX10_drawSnow_43 ?_
      refine lv_iconst (pc := 46) (v := 1) E.1 E.2.1 dX10_drawSnow_46 (by decide +kernel) ?_
      refine lv_isub (pc := 47) E.1 E.2.1 dX10_drawSnow_47 ?_
      refine lv_topi (fun v_11 ev_11 => ?_)
      refine x_max (pc := 48) E hl3.1 q_1068 q_805 q_167 q_806 (Nat.le_of_ble_eq_true rfl) (Nat.le_of_ble_eq_true rfl) (Nat.le_of_ble_eq_true rfl) (Nat.le_of_ble_eq_true rfl) dX10_drawSnow_48 (fun v_12 hv_12 => ?_)
      rw [show (0 : Int32).toInt = 0 from by decide +kernel] at hv_12
      have hv_12a : 0 ≤ v_12.toInt ∧ v_11.toInt ≤ v_12.toInt := by omega
      clear hv_12
      refine x_put (pc := 51) (T := TX4) (N := 12) (ci := 4) (ws' := (WZ_VO cI cJ mv mr (upd (upd mi 19 v_12) 20 ndraws_8) mf mg)) E hw9 inX4 tyX4_ok nmX4 6 8 q_223 rfl rfl (by decide) rfl rfl rfl rfl (Nat.le_of_ble_eq_true rfl) rfl dX10_drawSnow_51 (fun H locs hw13 => ?_)
      exact em_v (w1 := (fun (u : Int32 × Int32) => (WZ_VO cI cJ mv mr (upd (upd mi 20 u.1) 19 u.2) mf mg))) E hr hlk (ndraws_8, v_12) hw13 trivial (Nat.le_of_ble_eq_true rfl) (Nat.le_of_ble_eq_true rfl) dX10_drawSnow_54
    · skip
      have hc_10 := nleE (a := (mi 2).toInt) (b := r_6.toInt) rfl rfl c_10
      refine lv_aload_n (pc := 22) E.1 E.2.1 dX10_drawSnow_22 rfl (lv_at hl3 1 rfl) ?_
      refine lv_bipush (pc := 23) (v := 9) E.1 E.2.1 dX10_drawSnow_23 (by decide +kernel) ?_
      refine lv_aload_n (pc := 25) E.1 E.2.1 dX10_drawSnow_25 rfl (lv_at hl3 1 rfl) ?_
      refine x_get (pc := 26) (T := TX4) (N := 12) (ci := 4) (v := .int (mi 19)) E hw9 inX4 6 8 q_223 rfl rfl (by decide) rfl rfl dX10_drawSnow_26 ?_
      refine lv_iconst (pc := 29) (v := 1) E.1 E.2.1 dX10_drawSnow_29 (by decide +kernel) ?_
      refine lv_iadd (pc := 30) E.1 E.2.1 dX10_drawSnow_30 ?_
      refine lv_topi (fun v_14 ev_14 => ?_)
      refine x_min (pc := 31) E hl3.1 q_1067 q_808 q_167 q_809 (Nat.le_of_ble_eq_true rfl) (Nat.le_of_ble_eq_true rfl) (Nat.le_of_ble_eq_true rfl) (Nat.le_of_ble_eq_true rfl) dX10_drawSnow_31 (fun v_15 hv_15 => ?_)
      rw [show (9 : Int32).toInt = 9 from by decide +kernel] at hv_15
      have hv_15a : v_15.toInt ≤ 9 ∧ v_15.toInt ≤ v_14.toInt := by omega
      clear hv_15
      refine x_put (pc := 34) (T := TX4) (N := 12) (ci := 4) (ws' := (WZ_VO cI cJ mv mr (upd (upd mi 19 v_15) 20 ndraws_8) mf mg)) E hw9 inX4 tyX4_ok nmX4 6 8 q_223 rfl rfl (by decide) rfl rfl rfl rfl (Nat.le_of_ble_eq_true rfl) rfl dX10_drawSnow_34 (fun H locs hw16 => ?_)
      refine lv_goto (pc := 37) (tgt := 54) E.1 E.2.1 dX10_drawSnow_37 (by decide) ?_
      exact em_v (w1 := (fun (u : Int32 × Int32) => (WZ_VO cI cJ mv mr (upd (upd mi 20 u.1) 19 u.2) mf mg))) E hr hlk (ndraws_8, v_15) hw16 trivial (Nat.le_of_ble_eq_true rfl) (Nat.le_of_ble_eq_true rfl) dX10_drawSnow_54
  · skip
    have hc_4 := nltE (a := 0) (b := (mi 2).toInt) (by decide +kernel) rfl c_4
    exact em_v (w1 := (fun (u : Int32 × Int32) => (WZ_VO cI cJ mv mr (upd (upd mi 20 u.1) 19 u.2) mf mg))) E hr hlk ((mi 20), (mi 19)) hw1 trivial (Nat.le_of_ble_eq_true rfl) (Nat.le_of_ble_eq_true rfl) dX10_drawSnow_7
