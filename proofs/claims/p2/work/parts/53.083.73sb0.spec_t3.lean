set_option maxHeartbeats 4000000 in
set_option maxRecDepth 100000 in
theorem t_stepW (l : Launch) (D : va_G) (cI cJ : ClassId) (sz : Nat) (mr : Nat → Nat) (mi : Nat → Int32) (mf : Nat → Nat → Int32) (mg : Nat → Nat → Int64)  (ad av : Nat → Nat) (tf : Value) (h0 : 0 ≤ (mi 2).toInt ∧ (mi 2).toInt ≤ 400) (h1 : 0 ≤ (mi 4).toInt) (h2 : (mi 4).toInt ≤ (mi 2).toInt) (h3 : 0 ≤ (mi 3).toInt ∧ (mi 3).toInt ≤ 6) (a_signs : b255 (mf 1)) : Met l yX8_step (Cond.code yX8_step cX8_step 2 none :: GW) ({ frames := 6, cells := 0, slots := 0, locals := 150 } : Room) (va_Pc [.ref (mr 0)] (PW D cI cJ sz (WZ_Tape cI cJ ad mr mi mf mg) (xT8 ad av tf (va_A (WZ_Tape cI cJ ad mr mi mf mg) sz)))) (va_Qv (fun (u : Int32 × Int32 × Int32 × Int32) => (0 ≤ u.1.toInt) ∧ (u.1.toInt ≤ (mi 2).toInt) ∧ ((((mi 8).toInt ≠ 0 → u.2.1.toInt = (mi 7).toInt ∧ u.1.toInt = (mi 4).toInt ∧ u.2.2.1.toInt = (mi 5).toInt ∧ u.2.2.2.toInt = (mi 6).toInt) ∧ ((mi 8).toInt = 0 → TKS (ti (mi 3)) (mf 1) (mi 2).toInt (mi 4).toInt u.2.1.toInt u.1.toInt u.2.2.1.toInt u.2.2.2.toInt)))) (fun u => QW D cI cJ (va_A (WZ_Tape cI cJ ad mr mi mf mg) sz) ((fun (u : Int32 × Int32 × Int32 × Int32) => (WZ_Tape cI cJ ad mr (upd (upd (upd (upd mi 4 u.1) 7 u.2.1) 5 u.2.2.1) 6 u.2.2.2) mf mg)) u)) (va_A (WZ_Tape cI cJ ad mr mi mf mg) sz)) 0 0 (va_A (WZ_Tape cI cJ ad mr mi mf mg) sz) := by
  refine mk_metA (X := fun A => xT8 ad av tf A) (y := yX8_step) (bytes := cX8_step) (maxL := 2) (avs := [.ref (mr 0)]) (WS := (WZ_Tape cI cJ ad mr mi mf mg)) (Qf := fun A => va_Qv (fun (u : Int32 × Int32 × Int32 × Int32) => (0 ≤ u.1.toInt) ∧ (u.1.toInt ≤ (mi 2).toInt) ∧ ((((mi 8).toInt ≠ 0 → u.2.1.toInt = (mi 7).toInt ∧ u.1.toInt = (mi 4).toInt ∧ u.2.2.1.toInt = (mi 5).toInt ∧ u.2.2.2.toInt = (mi 6).toInt) ∧ ((mi 8).toInt = 0 → TKS (ti (mi 3)) (mf 1) (mi 2).toInt (mi 4).toInt u.2.1.toInt u.1.toInt u.2.2.1.toInt u.2.2.2.toInt)))) (fun u => QW D cI cJ A ((fun (u : Int32 × Int32 × Int32 × Int32) => (WZ_Tape cI cJ ad mr (upd (upd (upd (upd mi 4 u.1) 7 u.2.1) 5 u.2.2.1) 6 u.2.2.2) mf mg)) u)) A) (by decide) (Nat.le_of_ble_eq_true rfl) ?_
  intro p e s m below meth c A ls E hr hlk hnm hX hw1 hl2
  have hl3 : lv_has ls 2 [(0, .ref (mr 0))] := hl2
  refine lv_aload_n (pc := 0) E.1 E.2.1 dX8_step_0 rfl (lv_at hl3 0 rfl) ?_
  refine x_get (pc := 1) (T := TX8) (N := 9) (ci := 8) (v := .int (mi 8)) E hw1 inX8 0 7 q_550 rfl rfl (by decide) rfl rfl dX8_step_1 ?_
  refine lv_if_eq (pc := 4) (tgt := 8) E.1 E.2.1 dX8_step_4 (by decide) (fun c_4 => ?_) (fun c_4 => ?_)
  · skip
    have hc_4 := eqE (a := (mi 8).toInt) (b := 0) rfl (by decide +kernel) c_4
    have loop_5 : ∀ (k : Nat) (x_6 : Int32) (H : Heap) (locs : List Loc) (ls : Array Slot), (0 ≤ x_6.toInt) ∧ (x_6.toInt ≤ (mi 2).toInt) ∧ (rnI spcB (mf 1) (mi 2).toInt x_6.toInt = rnI spcB (mf 1) (mi 2).toInt (mi 4).toInt) → (mi 2).toInt - x_6.toInt < (k : Int) → WD D A s.heap (WZ_Tape cI cJ ad mr (upd mi 4 x_6) mf mg) H locs → lv_has ls 2 [(0, .ref (mr 0))] → W p l e ({ frames := 6, cells := 0, slots := 0, locals := 150 } : Room) s m ([.ref (mr 0)] : List Value).toArray below meth c H locs 0 0 (MQ below (va_Qv (fun (u : Int32 × Int32 × Int32 × Int32) => (0 ≤ u.1.toInt) ∧ (u.1.toInt ≤ (mi 2).toInt) ∧ ((((mi 8).toInt ≠ 0 → u.2.1.toInt = (mi 7).toInt ∧ u.1.toInt = (mi 4).toInt ∧ u.2.2.1.toInt = (mi 5).toInt ∧ u.2.2.2.toInt = (mi 6).toInt) ∧ ((mi 8).toInt = 0 → TKS (ti (mi 3)) (mf 1) (mi 2).toInt (mi 4).toInt u.2.1.toInt u.1.toInt u.2.2.1.toInt u.2.2.2.toInt)))) (fun u => QW D cI cJ A ((fun (u : Int32 × Int32 × Int32 × Int32) => (WZ_Tape cI cJ ad mr (upd (upd (upd (upd mi 4 u.1) 7 u.2.1) 5 u.2.2.1) 6 u.2.2.2) mf mg)) u)) A) ([.ref (mr 0)] : List Value).toArray s 0 0 A) (F0 m 8 ls []) := by
      intro k
      induction k with
      | zero =>
        intro x_6 _ _ _ hinv hm
        obtain ⟨hi_6_0, hi_6_1, hi_6_2⟩ := hinv
        exact absurd hm (by omega)
      | succ k ih_7 =>
        intro x_6 H locs ls hinv hm hw8 hl9
        obtain ⟨hi_6_0, hi_6_1, hi_6_2⟩ := hinv
        refine lv_aload_n (pc := 8) E.1 E.2.1 dX8_step_8 rfl (lv_at hl9 0 rfl) ?_
        refine x_get (pc := 9) (T := TX8) (N := 9) (ci := 8) (v := .int x_6) E hw8 inX8 0 3 q_541 rfl rfl (by decide) rfl rfl dX8_step_9 ?_
        refine lv_aload_n (pc := 12) E.1 E.2.1 dX8_step_12 rfl (lv_at hl9 0 rfl) ?_
        refine x_get (pc := 13) (T := TX8) (N := 9) (ci := 8) (v := .int (mi 2)) E hw8 inX8 0 1 q_538 rfl rfl (by decide) rfl rfl dX8_step_13 ?_
        refine lv_icmp_ge (pc := 16) (tgt := 60) E.1 E.2.1 dX8_step_16 (by decide) (fun c_10 => ?_) (fun c_10 => ?_)
        · skip
          have hc_10 := leE (a := (mi 2).toInt) (b := x_6.toInt) rfl rfl c_10
          have hsk_11 : x_6.toInt = tkA (mf 1) (mi 2).toInt (mi 4).toInt := rnI_full hi_6_2 (by omega)
          refine lv_aload_n (pc := 60) E.1 E.2.1 dX8_step_60 rfl (lv_at hl9 0 rfl) ?_
          refine lv_aload_n (pc := 61) E.1 E.2.1 dX8_step_61 rfl (lv_at hl9 0 rfl) ?_
          refine x_get (pc := 62) (T := TX8) (N := 9) (ci := 8) (v := .int x_6) E hw8 inX8 0 3 q_541 rfl rfl (by decide) rfl rfl dX8_step_62 ?_
          refine x_put (pc := 65) (T := TX8) (N := 9) (ci := 8) (ws' := (WZ_Tape cI cJ ad mr (upd (upd mi 4 x_6) 7 x_6) mf mg)) E hw8 inX8 tyX8_ok nmX8 0 6 q_549 rfl rfl (by decide) rfl rfl rfl rfl (Nat.le_of_ble_eq_true rfl) rfl dX8_step_65 (fun H locs hw12 => ?_)
          refine lv_aload_n (pc := 68) E.1 E.2.1 dX8_step_68 rfl (lv_at hl9 0 rfl) ?_
          refine x_get (pc := 69) (T := TX8) (N := 9) (ci := 8) (v := .int x_6) E hw12 inX8 0 3 q_541 rfl rfl (by decide) rfl rfl dX8_step_69 ?_
          refine lv_aload_n (pc := 72) E.1 E.2.1 dX8_step_72 rfl (lv_at hl9 0 rfl) ?_
          refine x_get (pc := 73) (T := TX8) (N := 9) (ci := 8) (v := .int (mi 2)) E hw12 inX8 0 1 q_538 rfl rfl (by decide) rfl rfl dX8_step_73 ?_
          refine lv_icmp_lt (pc := 76) (tgt := 87) E.1 E.2.1 dX8_step_76 (by decide) (fun c_13 => absurd c_13 (mnltE (a := x_6.toInt) (b := (mi 2).toInt) rfl rfl (by omega))) (fun _ => ?_)
          refine lv_aload_n (pc := 79) E.1 E.2.1 dX8_step_79 rfl (lv_at hl9 0 rfl) ?_
          refine lv_iconst (pc := 80) (v := 0) E.1 E.2.1 dX8_step_80 (by decide +kernel) ?_
          refine x_put (pc := 81) (T := TX8) (N := 9) (ci := 8) (ws' := (WZ_Tape cI cJ ad mr (upd (upd (upd mi 4 x_6) 5 0) 7 x_6) mf mg)) E hw12 inX8 tyX8_ok nmX8 0 4 q_546 rfl rfl (by decide) rfl rfl rfl rfl (Nat.le_of_ble_eq_true rfl) rfl dX8_step_81 (fun H locs hw14 => ?_)
          refine lv_goto (pc := 84) (tgt := 234) E.1 E.2.1 dX8_step_84 (by decide) ?_
          exact em_v (w1 := (fun (u : Int32 × Int32 × Int32 × Int32) => (WZ_Tape cI cJ ad mr (upd (upd (upd (upd mi 4 u.1) 7 u.2.1) 5 u.2.2.1) 6 u.2.2.2) mf mg))) E hr hlk (x_6, x_6, 0, (mi 6)) hw14 ⟨(by show 0 ≤ x_6.toInt; have k_0 : (0 : Int32).toInt = 0 := (by decide +kernel); omega), (by show x_6.toInt ≤ (mi 2).toInt; have k_0 : (0 : Int32).toInt = 0 := (by decide +kernel); omega), (show (((mi 8).toInt ≠ 0 → x_6.toInt = (mi 7).toInt ∧ x_6.toInt = (mi 4).toInt ∧ (0 : Int32).toInt = (mi 5).toInt ∧ (mi 6).toInt = (mi 6).toInt) ∧ ((mi 8).toInt = 0 → TKS (ti (mi 3)) (mf 1) (mi 2).toInt (mi 4).toInt x_6.toInt x_6.toInt (0 : Int32).toInt (mi 6).toInt)) from ⟨fun h => absurd (by omega) h, fun _ => (TKS_end hsk_11 (by omega) rfl (by decide +kernel))⟩)⟩ (Nat.le_of_ble_eq_true rfl) (Nat.le_of_ble_eq_true rfl) dX8_step_234
        · skip
          have hc_10 := nleE (a := (mi 2).toInt) (b := x_6.toInt) rfl rfl c_10
          refine lv_aload_n (pc := 19) E.1 E.2.1 dX8_step_19 rfl (lv_at hl9 0 rfl) ?_
          refine x_get (pc := 20) (T := TX8) (N := 9) (ci := 8) (v := .ref (mr 1)) E hw8 inX8 0 0 q_537 rfl rfl (by decide) rfl rfl dX8_step_20 ?_
          refine lv_aload_n (pc := 23) E.1 E.2.1 dX8_step_23 rfl (lv_at hl9 0 rfl) ?_
          refine x_get (pc := 24) (T := TX8) (N := 9) (ci := 8) (v := .int x_6) E hw8 inX8 0 3 q_541 rfl rfl (by decide) rfl rfl dX8_step_24 ?_
          refine x_iald (pc := 27) (f := (mf 1)) E hw8 1 rfl (inbE (a := x_6.toInt) rfl (by omega)) dX8_step_27 ?_
          refine lv_topi (fun v_15 ev_15 => ?_)
          have hbv_15 := allR_at (n := 400) (lo := 0) (hi := 255) a_signs ev_15 (by show 0 ≤ x_6.toInt ∧ _; omega)
          refine lv_bipush (pc := 28) (v := 32) E.1 E.2.1 dX8_step_28 (by decide +kernel) ?_
          refine lv_icmp_eq (pc := 30) (tgt := 47) E.1 E.2.1 dX8_step_30 (by decide) (fun c_16 => ?_) (fun c_16 => ?_)
          · skip
            have hc_16 := eqE (a := v_15.toInt) (b := 32) rfl (by decide +kernel) c_16
            refine lv_aload_n (pc := 47) E.1 E.2.1 dX8_step_47 rfl (lv_at hl9 0 rfl) ?_
            refine lv_dup (pc := 48) E.1 E.2.1 dX8_step_48 rfl ?_
            refine x_get (pc := 49) (T := TX8) (N := 9) (ci := 8) (v := .int x_6) E hw8 inX8 0 3 q_541 rfl rfl (by decide) rfl rfl dX8_step_49 ?_
            refine lv_iconst (pc := 52) (v := 1) E.1 E.2.1 dX8_step_52 (by decide +kernel) ?_
            refine lv_iadd (pc := 53) E.1 E.2.1 dX8_step_53 ?_
            refine lv_topi (fun v_17 ev_17 => ?_)
            have hv_17 : v_17.toInt = x_6.toInt + 1 := by rw [ev_17]; exact addE rfl (by decide +kernel) (by omega)
            refine x_put (pc := 54) (T := TX8) (N := 9) (ci := 8) (ws' := (WZ_Tape cI cJ ad mr (upd mi 4 v_17) mf mg)) E hw8 inX8 tyX8_ok nmX8 0 3 q_541 rfl rfl (by decide) rfl rfl rfl rfl (Nat.le_of_ble_eq_true rfl) rfl dX8_step_54 (fun H locs hw18 => ?_)
            refine lv_goto (pc := 57) (tgt := 8) E.1 E.2.1 dX8_step_57 (by decide) ?_
            exact ih_7 v_17 _ _ _ ⟨(by show 0 ≤ v_17.toInt; omega), (by show v_17.toInt ≤ (mi 2).toInt; omega), (rnI_step hi_6_2 ev_15 (by omega) (by omega) (spc_t (by omega)) (m := v_17.toInt) (by omega))⟩ (by omega) hw18 (lv_sub hl9 [0] rfl)
          · skip
            have hc_16 := neE (a := v_15.toInt) (b := 32) rfl (by decide +kernel) c_16
            refine lv_aload_n (pc := 33) E.1 E.2.1 dX8_step_33 rfl (lv_at hl9 0 rfl) ?_
            refine x_get (pc := 34) (T := TX8) (N := 9) (ci := 8) (v := .ref (mr 1)) E hw8 inX8 0 0 q_537 rfl rfl (by decide) rfl rfl dX8_step_34 ?_
            refine lv_aload_n (pc := 37) E.1 E.2.1 dX8_step_37 rfl (lv_at hl9 0 rfl) ?_
            refine x_get (pc := 38) (T := TX8) (N := 9) (ci := 8) (v := .int x_6) E hw8 inX8 0 3 q_541 rfl rfl (by decide) rfl rfl dX8_step_38 ?_
            refine x_iald (pc := 41) (f := (mf 1)) E hw8 1 rfl (inbE (a := x_6.toInt) rfl (by omega)) dX8_step_41 ?_
            refine lv_topi (fun v_19 ev_19 => ?_)
            have hbv_19 := allR_at (n := 400) (lo := 0) (hi := 255) a_signs ev_19 (by show 0 ≤ x_6.toInt ∧ _; omega)
            have hsv_19 : v_19.toInt = v_15.toInt := by rw [ev_19, ev_15]
            refine lv_bipush (pc := 42) (v := 10) E.1 E.2.1 dX8_step_42 (by decide +kernel) ?_
            refine lv_icmp_ne (pc := 44) (tgt := 60) E.1 E.2.1 dX8_step_44 (by decide) (fun c_20 => ?_) (fun c_20 => ?_)
            · skip
              have hc_20 := neE (a := v_19.toInt) (b := 10) rfl (by decide +kernel) c_20
              have hsk_21 : x_6.toInt = tkA (mf 1) (mi 2).toInt (mi 4).toInt := rnI_stop hi_6_2 ev_19 (by omega) (by omega) (spc_f (by omega))
              refine lv_aload_n (pc := 60) E.1 E.2.1 dX8_step_60 rfl (lv_at hl9 0 rfl) ?_
              refine lv_aload_n (pc := 61) E.1 E.2.1 dX8_step_61 rfl (lv_at hl9 0 rfl) ?_
              refine x_get (pc := 62) (T := TX8) (N := 9) (ci := 8) (v := .int x_6) E hw8 inX8 0 3 q_541 rfl rfl (by decide) rfl rfl dX8_step_62 ?_
              refine x_put (pc := 65) (T := TX8) (N := 9) (ci := 8) (ws' := (WZ_Tape cI cJ ad mr (upd (upd mi 4 x_6) 7 x_6) mf mg)) E hw8 inX8 tyX8_ok nmX8 0 6 q_549 rfl rfl (by decide) rfl rfl rfl rfl (Nat.le_of_ble_eq_true rfl) rfl dX8_step_65 (fun H locs hw22 => ?_)
              refine lv_aload_n (pc := 68) E.1 E.2.1 dX8_step_68 rfl (lv_at hl9 0 rfl) ?_
              refine x_get (pc := 69) (T := TX8) (N := 9) (ci := 8) (v := .int x_6) E hw22 inX8 0 3 q_541 rfl rfl (by decide) rfl rfl dX8_step_69 ?_
              refine lv_aload_n (pc := 72) E.1 E.2.1 dX8_step_72 rfl (lv_at hl9 0 rfl) ?_
              refine x_get (pc := 73) (T := TX8) (N := 9) (ci := 8) (v := .int (mi 2)) E hw22 inX8 0 1 q_538 rfl rfl (by decide) rfl rfl dX8_step_73 ?_
              refine lv_icmp_lt (pc := 76) (tgt := 87) E.1 E.2.1 dX8_step_76 (by decide) (fun _ => ?_) (fun c_23 => absurd (mltE (a := x_6.toInt) (b := (mi 2).toInt) rfl rfl (by omega)) c_23)
              refine lv_aload_n (pc := 87) E.1 E.2.1 dX8_step_87 rfl (lv_at hl9 0 rfl) ?_
              refine x_get (pc := 88) (T := TX8) (N := 9) (ci := 8) (v := .ref (mr 1)) E hw22 inX8 0 0 q_537 rfl rfl (by decide) rfl rfl dX8_step_88 ?_
              refine lv_aload_n (pc := 91) E.1 E.2.1 dX8_step_91 rfl (lv_at hl9 0 rfl) ?_
              refine x_get (pc := 92) (T := TX8) (N := 9) (ci := 8) (v := .int x_6) E hw22 inX8 0 3 q_541 rfl rfl (by decide) rfl rfl dX8_step_92 ?_
              refine x_iald (pc := 95) (f := (mf 1)) E hw22 1 rfl (inbE (a := x_6.toInt) rfl (by omega)) dX8_step_95 ?_
              refine lv_topi (fun v_24 ev_24 => ?_)
              have hbv_24 := allR_at (n := 400) (lo := 0) (hi := 255) a_signs ev_24 (by show 0 ≤ x_6.toInt ∧ _; omega)
              have hsv_24 : v_24.toInt = v_19.toInt := by rw [ev_24, ev_19]
              refine cq_i (pc := 96) (ws' := (fun (u : Unit) => (WZ_Tape cI cJ ad mr (upd (upd mi 4 x_6) 7 x_6) mf mg))) hw22 [] [0, 1] [0, 1] rfl rfl (by decide) (by decide) (fun _ => rfl) (by decide) (rn_S (As := [.int v_24]) (rest := []) E hw22 (t_isLetterW l D cI cJ _ (ixf [] mr) (ixf [] (upd (upd mi 4 x_6) 7 x_6)) (ixf [] mf) (ixf [] mg) v_24) (gdS q_726 q_727 q_160 q_728) hdV_X8_isLetter ⟨rfl, rfl⟩ ⟨(Nat.le_of_ble_eq_true rfl), (Nat.le_of_ble_eq_true rfl)⟩ ⟨(Nat.le_of_ble_eq_true rfl), (Nat.le_of_ble_eq_true rfl)⟩ xT_b xT_at [] rfl (by decide) rfl hl9.1 rfl (Nat.le_of_ble_eq_true rfl) dX8_step_96) (fun r_26 u_25 H1 locs hp hw27 => ?_)
              generalize H1 = H at hw27 ⊢
              have hw28 : WD D A s.heap (WZ_Tape cI cJ ad mr (upd (upd mi 4 x_6) 7 x_6) mf mg) H locs := hw27
              have hp_29 := hp
              rcases hp_29 with ⟨rfl, ha_30, ha_31⟩ | ⟨rfl, ha_32, ha_33⟩ | ⟨rfl, ha_34⟩ | ⟨rfl, ha_35, ha_36⟩ | ⟨rfl, ha_37⟩
              · skip
                have ha_30 : 97 ≤ v_24.toInt := ha_30
                have ha_31 : v_24.toInt ≤ 122 := ha_31
                refine lv_if_eq (pc := 99) (tgt := 167) E.1 E.2.1 dX8_step_99 (by decide) (fun c_38 => absurd c_38 (mneE (a := 1) (b := 0) (by decide +kernel) (by decide +kernel) (by omega))) (fun _ => ?_)
                have loop_39 : ∀ (k : Nat) (x_40 : Int32) (H : Heap) (locs : List Loc) (ls : Array Slot), (0 ≤ x_40.toInt) ∧ (x_40.toInt ≤ (mi 2).toInt) ∧ (x_6.toInt ≤ x_40.toInt) ∧ (rnI ltrB (mf 1) (mi 2).toInt x_40.toInt = rnI ltrB (mf 1) (mi 2).toInt x_6.toInt) → (mi 2).toInt - x_40.toInt < (k : Int) → WD D A s.heap (WZ_Tape cI cJ ad mr (upd (upd mi 4 x_40) 7 x_6) mf mg) H locs → lv_has ls 2 [(0, .ref (mr 0))] → W p l e ({ frames := 6, cells := 0, slots := 0, locals := 150 } : Room) s m ([.ref (mr 0)] : List Value).toArray below meth c H locs 0 0 (MQ below (va_Qv (fun (u : Int32 × Int32 × Int32 × Int32) => (0 ≤ u.1.toInt) ∧ (u.1.toInt ≤ (mi 2).toInt) ∧ ((((mi 8).toInt ≠ 0 → u.2.1.toInt = (mi 7).toInt ∧ u.1.toInt = (mi 4).toInt ∧ u.2.2.1.toInt = (mi 5).toInt ∧ u.2.2.2.toInt = (mi 6).toInt) ∧ ((mi 8).toInt = 0 → TKS (ti (mi 3)) (mf 1) (mi 2).toInt (mi 4).toInt u.2.1.toInt u.1.toInt u.2.2.1.toInt u.2.2.2.toInt)))) (fun u => QW D cI cJ A ((fun (u : Int32 × Int32 × Int32 × Int32) => (WZ_Tape cI cJ ad mr (upd (upd (upd (upd mi 4 u.1) 7 u.2.1) 5 u.2.2.1) 6 u.2.2.2) mf mg)) u)) A) ([.ref (mr 0)] : List Value).toArray s 0 0 A) (F0 m 102 ls []) := by
                  intro k
                  induction k with
                  | zero =>
                    intro x_40 _ _ _ hinv hm
                    obtain ⟨hi_40_0, hi_40_1, hi_40_2, hi_40_3⟩ := hinv
                    exact absurd hm (by omega)
                  | succ k ih_41 =>
                    intro x_40 H locs ls hinv hm hw42 hl43
                    obtain ⟨hi_40_0, hi_40_1, hi_40_2, hi_40_3⟩ := hinv
                    refine lv_aload_n (pc := 102) E.1 E.2.1 dX8_step_102 rfl (lv_at hl43 0 rfl) ?_
                    refine x_get (pc := 103) (T := TX8) (N := 9) (ci := 8) (v := .int x_40) E hw42 inX8 0 3 q_541 rfl rfl (by decide) rfl rfl dX8_step_103 ?_
                    refine lv_aload_n (pc := 106) E.1 E.2.1 dX8_step_106 rfl (lv_at hl43 0 rfl) ?_
                    refine x_get (pc := 107) (T := TX8) (N := 9) (ci := 8) (v := .int (mi 2)) E hw42 inX8 0 1 q_538 rfl rfl (by decide) rfl rfl dX8_step_107 ?_
                    refine lv_icmp_ge (pc := 110) (tgt := 141) E.1 E.2.1 dX8_step_110 (by decide) (fun c_44 => ?_) (fun c_44 => ?_)
                    · skip
                      have hc_44 := leE (a := (mi 2).toInt) (b := x_40.toInt) rfl rfl c_44
                      have hle_45 : x_40.toInt = rnI ltrB (mf 1) (mi 2).toInt x_6.toInt := rnI_full hi_40_3 (by omega)
                      refine lv_aload_n (pc := 141) E.1 E.2.1 dX8_step_141 rfl (lv_at hl43 0 rfl) ?_
                      refine cq_i (pc := 142) (ws' := (fun (u : Unit) => (WZ_Tape cI cJ ad mr (upd (upd mi 4 x_40) 7 x_6) mf mg))) hw42 [0, 1] [] [0, 1] rfl rfl (by decide) (by decide) (fun _ => rfl) (by decide) (rn_V (As := []) (rest := []) E hw42 (t_wordNumberW l D cI cJ _ (ixf [0, 1, 2, 3, 4, 5, 6, 7, 8, 9] mr) (ixf [0, 1, 2, 3, 4, 5, 6, 7, 8, 9] (upd (upd mi 4 x_40) 7 x_6)) (ixf [0, 1, 2, 3, 4, 5, 6, 7, 8, 9] mf) (ixf [0, 1, 2, 3, 4, 5, 6, 7, 8, 9] mg) ad av tf (by show 0 ≤ (mi 2).toInt ∧ (mi 2).toInt ≤ 400; omega) (by show 0 ≤ x_40.toInt; omega) (by show x_40.toInt ≤ (mi 2).toInt; omega) (by show 0 ≤ (mi 3).toInt ∧ (mi 3).toInt ≤ 6; omega) (by show 0 ≤ x_6.toInt; omega) (by show x_6.toInt ≤ x_40.toInt; omega)) (gdV q_729 q_731 q_2 q_160 q_732) hdV_X8_wordNumber ⟨rfl, rfl⟩ ⟨(Nat.le_of_ble_eq_true rfl), (Nat.le_of_ble_eq_true rfl)⟩ ⟨(Nat.le_of_ble_eq_true rfl), (Nat.le_of_ble_eq_true rfl)⟩ xT8_b (xT8_at hX hw42.2.2.1 (va_free hw42.2.1 hw42.2.2.1 hw42.2.2.2 [0, 1] rfl)) 0 8 rfl rfl rfl [0, 1] rfl (by decide) rfl hl43.1 rfl (Nat.le_of_ble_eq_true rfl) dX8_step_142) (fun r_47 u_46 H1 locs hp hw48 => ?_)
                      generalize H1 = H at hw48 ⊢
                      have hw49 : WD D A s.heap (WZ_Tape cI cJ ad mr (upd (upd mi 4 x_40) 7 x_6) mf mg) H locs := hw48
                      obtain ⟨hp_50, hp_51, hp_52⟩ := hp
                      have hp_50 : (-1) ≤ r_47.toInt := hp_50
                      have hp_51 : r_47.toInt ≤ 75 := hp_51
                      have hp_52 : (r_47 : Int32).toInt = scnI (mf 1) x_6.toInt x_40.toInt (sTx (ti (mi 3))) 0 x_6.toInt true := hp_52
                      refine lv_istore_n (pc := 145) (lv' := [(1, .int r_47), (0, .ref (mr 0))]) E.1 E.2.1 dX8_step_145 rfl hl43 (by decide) rfl (fun ls hl53 => ?_)
                      refine lv_aload_n (pc := 146) E.1 E.2.1 dX8_step_146 rfl (lv_at hl53 1 rfl) ?_
                      refine lv_iload_n (pc := 147) E.1 E.2.1 dX8_step_147 rfl (lv_at hl53 0 rfl) ?_
                      refine lv_iconst (pc := 148) (v := (-1)) E.1 E.2.1 dX8_step_148 (by decide +kernel) ?_
                      refine lv_icmp_ne (pc := 149) (tgt := 156) E.1 E.2.1 dX8_step_149 (by decide) (fun c_54 => ?_) (fun c_54 => ?_)
                      · skip
                        have hc_54 := neE (a := r_47.toInt) (b := (-1)) rfl (by decide +kernel) c_54
                        refine lv_sipush (pc := 156) (v := 256) E.1 E.2.1 dX8_step_156 (by decide +kernel) ?_
                        refine lv_iload_n (pc := 159) E.1 E.2.1 dX8_step_159 rfl (lv_at hl53 0 rfl) ?_
                        refine lv_iadd (pc := 160) E.1 E.2.1 dX8_step_160 ?_
                        refine lv_topi (fun v_55 ev_55 => ?_)
                        have hv_55 : v_55.toInt = 256 + r_47.toInt := by rw [ev_55]; exact addE (by decide +kernel) rfl (by omega)
                        refine x_put (pc := 161) (T := TX8) (N := 9) (ci := 8) (ws' := (WZ_Tape cI cJ ad mr (upd (upd (upd mi 4 x_40) 5 v_55) 7 x_6) mf mg)) E hw49 inX8 tyX8_ok nmX8 0 4 q_546 rfl rfl (by decide) rfl rfl rfl rfl (Nat.le_of_ble_eq_true rfl) rfl dX8_step_161 (fun H locs hw56 => ?_)
                        refine lv_goto (pc := 164) (tgt := 234) E.1 E.2.1 dX8_step_164 (by decide) ?_
                        exact em_v (w1 := (fun (u : Int32 × Int32 × Int32 × Int32) => (WZ_Tape cI cJ ad mr (upd (upd (upd (upd mi 4 u.1) 7 u.2.1) 5 u.2.2.1) 6 u.2.2.2) mf mg))) E hr hlk (x_40, x_6, v_55, (mi 6)) hw56 ⟨(by show 0 ≤ x_40.toInt; omega), (by show x_40.toInt ≤ (mi 2).toInt; omega), (show (((mi 8).toInt ≠ 0 → x_6.toInt = (mi 7).toInt ∧ x_40.toInt = (mi 4).toInt ∧ v_55.toInt = (mi 5).toInt ∧ (mi 6).toInt = (mi 6).toInt) ∧ ((mi 8).toInt = 0 → TKS (ti (mi 3)) (mf 1) (mi 2).toInt (mi 4).toInt x_6.toInt x_40.toInt v_55.toInt (mi 6).toInt)) from ⟨fun h => absurd (by omega) h, fun _ => (TKS_let hsk_21 ev_24 (by omega) (by omega) (ltr_t (by omega)) rfl hle_45 hp_52 (by omega) (Or.inr ⟨by omega, by omega⟩))⟩)⟩ (Nat.le_of_ble_eq_true rfl) (Nat.le_of_ble_eq_true rfl) dX8_step_234
                      · skip
                        have hc_54 := eqE (a := r_47.toInt) (b := (-1)) rfl (by decide +kernel) c_54
                        refine lv_iconst (pc := 152) (v := 2) E.1 E.2.1 dX8_step_152 (by decide +kernel) ?_
                        refine lv_goto (pc := 153) (tgt := 161) E.1 E.2.1 dX8_step_153 (by decide) ?_
                        refine x_put (pc := 161) (T := TX8) (N := 9) (ci := 8) (ws' := (WZ_Tape cI cJ ad mr (upd (upd (upd mi 4 x_40) 5 2) 7 x_6) mf mg)) E hw49 inX8 tyX8_ok nmX8 0 4 q_546 rfl rfl (by decide) rfl rfl rfl rfl (Nat.le_of_ble_eq_true rfl) rfl dX8_step_161 (fun H locs hw57 => ?_)
                        refine lv_goto (pc := 164) (tgt := 234) E.1 E.2.1 dX8_step_164 (by decide) ?_
                        exact em_v (w1 := (fun (u : Int32 × Int32 × Int32 × Int32) => (WZ_Tape cI cJ ad mr (upd (upd (upd (upd mi 4 u.1) 7 u.2.1) 5 u.2.2.1) 6 u.2.2.2) mf mg))) E hr hlk (x_40, x_6, 2, (mi 6)) hw57 ⟨(by show 0 ≤ x_40.toInt; have k_0 : (2 : Int32).toInt = 2 := (by decide +kernel); omega), (by show x_40.toInt ≤ (mi 2).toInt; have k_0 : (2 : Int32).toInt = 2 := (by decide +kernel); omega), (show (((mi 8).toInt ≠ 0 → x_6.toInt = (mi 7).toInt ∧ x_40.toInt = (mi 4).toInt ∧ (2 : Int32).toInt = (mi 5).toInt ∧ (mi 6).toInt = (mi 6).toInt) ∧ ((mi 8).toInt = 0 → TKS (ti (mi 3)) (mf 1) (mi 2).toInt (mi 4).toInt x_6.toInt x_40.toInt (2 : Int32).toInt (mi 6).toInt)) from ⟨fun h => absurd (by omega) h, fun _ => (TKS_let hsk_21 ev_24 (by omega) (by omega) (ltr_t (by omega)) rfl hle_45 hp_52 (by omega) (Or.inl ⟨by omega, by decide +kernel⟩))⟩)⟩ (Nat.le_of_ble_eq_true rfl) (Nat.le_of_ble_eq_true rfl) dX8_step_234
                    · skip
                      have hc_44 := nleE (a := (mi 2).toInt) (b := x_40.toInt) rfl rfl c_44
                      refine lv_aload_n (pc := 113) E.1 E.2.1 dX8_step_113 rfl (lv_at hl43 0 rfl) ?_
                      refine x_get (pc := 114) (T := TX8) (N := 9) (ci := 8) (v := .ref (mr 1)) E hw42 inX8 0 0 q_537 rfl rfl (by decide) rfl rfl dX8_step_114 ?_
                      refine lv_aload_n (pc := 117) E.1 E.2.1 dX8_step_117 rfl (lv_at hl43 0 rfl) ?_
                      refine x_get (pc := 118) (T := TX8) (N := 9) (ci := 8) (v := .int x_40) E hw42 inX8 0 3 q_541 rfl rfl (by decide) rfl rfl dX8_step_118 ?_
                      refine x_iald (pc := 121) (f := (mf 1)) E hw42 1 rfl (inbE (a := x_40.toInt) rfl (by omega)) dX8_step_121 ?_
                      refine lv_topi (fun v_58 ev_58 => ?_)
                      have hbv_58 := allR_at (n := 400) (lo := 0) (hi := 255) a_signs ev_58 (by show 0 ≤ x_40.toInt ∧ _; omega)
                      refine cq_i (pc := 122) (ws' := (fun (u : Unit) => (WZ_Tape cI cJ ad mr (upd (upd mi 4 x_40) 7 x_6) mf mg))) hw42 [] [0, 1] [0, 1] rfl rfl (by decide) (by decide) (fun _ => rfl) (by decide) (rn_S (As := [.int v_58]) (rest := []) E hw42 (t_isLetterW l D cI cJ _ (ixf [] mr) (ixf [] (upd (upd mi 4 x_40) 7 x_6)) (ixf [] mf) (ixf [] mg) v_58) (gdS q_726 q_727 q_160 q_728) hdV_X8_isLetter ⟨rfl, rfl⟩ ⟨(Nat.le_of_ble_eq_true rfl), (Nat.le_of_ble_eq_true rfl)⟩ ⟨(Nat.le_of_ble_eq_true rfl), (Nat.le_of_ble_eq_true rfl)⟩ xT_b xT_at [] rfl (by decide) rfl hl43.1 rfl (Nat.le_of_ble_eq_true rfl) dX8_step_122) (fun r_60 u_59 H1 locs hp hw61 => ?_)
                      generalize H1 = H at hw61 ⊢
                      have hw62 : WD D A s.heap (WZ_Tape cI cJ ad mr (upd (upd mi 4 x_40) 7 x_6) mf mg) H locs := hw61
                      have hp_63 := hp
                      rcases hp_63 with ⟨rfl, ha_64, ha_65⟩ | ⟨rfl, ha_66, ha_67⟩ | ⟨rfl, ha_68⟩ | ⟨rfl, ha_69, ha_70⟩ | ⟨rfl, ha_71⟩
                      · skip
                        have ha_64 : 97 ≤ v_58.toInt := ha_64
                        have ha_65 : v_58.toInt ≤ 122 := ha_65
                        refine lv_if_eq (pc := 125) (tgt := 141) E.1 E.2.1 dX8_step_125 (by decide) (fun c_72 => absurd c_72 (mneE (a := 1) (b := 0) (by decide +kernel) (by decide +kernel) (by omega))) (fun _ => ?_)
                        refine lv_aload_n (pc := 128) E.1 E.2.1 dX8_step_128 rfl (lv_at hl43 0 rfl) ?_
                        refine lv_dup (pc := 129) E.1 E.2.1 dX8_step_129 rfl ?_
                        refine x_get (pc := 130) (T := TX8) (N := 9) (ci := 8) (v := .int x_40) E hw62 inX8 0 3 q_541 rfl rfl (by decide) rfl rfl dX8_step_130 ?_
                        refine lv_iconst (pc := 133) (v := 1) E.1 E.2.1 dX8_step_133 (by decide +kernel) ?_
                        refine lv_iadd (pc := 134) E.1 E.2.1 dX8_step_134 ?_
                        refine lv_topi (fun v_73 ev_73 => ?_)
                        have hv_73 : v_73.toInt = x_40.toInt + 1 := by rw [ev_73]; exact addE rfl (by decide +kernel) (by omega)
                        refine x_put (pc := 135) (T := TX8) (N := 9) (ci := 8) (ws' := (WZ_Tape cI cJ ad mr (upd (upd mi 4 v_73) 7 x_6) mf mg)) E hw62 inX8 tyX8_ok nmX8 0 3 q_541 rfl rfl (by decide) rfl rfl rfl rfl (Nat.le_of_ble_eq_true rfl) rfl dX8_step_135 (fun H locs hw74 => ?_)
                        refine lv_goto (pc := 138) (tgt := 102) E.1 E.2.1 dX8_step_138 (by decide) ?_
                        exact ih_41 v_73 _ _ _ ⟨(by show 0 ≤ v_73.toInt; omega), (by show v_73.toInt ≤ (mi 2).toInt; omega), (by show x_6.toInt ≤ v_73.toInt; omega), (rnI_step hi_40_3 ev_58 (by omega) (by omega) (ltr_t (by omega)) (m := v_73.toInt) (by omega))⟩ (by omega) hw74 (lv_sub hl43 [0] rfl)
                      · skip
                        have ha_66 : 65 ≤ v_58.toInt := ha_66
                        have ha_67 : v_58.toInt ≤ 90 := ha_67
                        refine lv_if_eq (pc := 125) (tgt := 141) E.1 E.2.1 dX8_step_125 (by decide) (fun c_75 => absurd c_75 (mneE (a := 1) (b := 0) (by decide +kernel) (by decide +kernel) (by omega))) (fun _ => ?_)
                        refine lv_aload_n (pc := 128) E.1 E.2.1 dX8_step_128 rfl (lv_at hl43 0 rfl) ?_
                        refine lv_dup (pc := 129) E.1 E.2.1 dX8_step_129 rfl ?_
                        refine x_get (pc := 130) (T := TX8) (N := 9) (ci := 8) (v := .int x_40) E hw62 inX8 0 3 q_541 rfl rfl (by decide) rfl rfl dX8_step_130 ?_
                        refine lv_iconst (pc := 133) (v := 1) E.1 E.2.1 dX8_step_133 (by decide +kernel) ?_
                        refine lv_iadd (pc := 134) E.1 E.2.1 dX8_step_134 ?_
                        refine lv_topi (fun v_76 ev_76 => ?_)
                        have hv_76 : v_76.toInt = x_40.toInt + 1 := by rw [ev_76]; exact addE rfl (by decide +kernel) (by omega)
                        refine x_put (pc := 135) (T := TX8) (N := 9) (ci := 8) (ws' := (WZ_Tape cI cJ ad mr (upd (upd mi 4 v_76) 7 x_6) mf mg)) E hw62 inX8 tyX8_ok nmX8 0 3 q_541 rfl rfl (by decide) rfl rfl rfl rfl (Nat.le_of_ble_eq_true rfl) rfl dX8_step_135 (fun H locs hw77 => ?_)
                        refine lv_goto (pc := 138) (tgt := 102) E.1 E.2.1 dX8_step_138 (by decide) ?_
                        exact ih_41 v_76 _ _ _ ⟨(by show 0 ≤ v_76.toInt; omega), (by show v_76.toInt ≤ (mi 2).toInt; omega), (by show x_6.toInt ≤ v_76.toInt; omega), (rnI_step hi_40_3 ev_58 (by omega) (by omega) (ltr_t (by omega)) (m := v_76.toInt) (by omega))⟩ (by omega) hw77 (lv_sub hl43 [0] rfl)
                      · skip
                        have ha_68 : v_58.toInt ≤ 64 := ha_68
                        refine lv_if_eq (pc := 125) (tgt := 141) E.1 E.2.1 dX8_step_125 (by decide) (fun _ => ?_) (fun c_78 => absurd (meqE (a := 0) (b := 0) (by decide +kernel) (by decide +kernel) (by omega)) c_78)
                        have hle_79 : x_40.toInt = rnI ltrB (mf 1) (mi 2).toInt x_6.toInt := rnI_stop hi_40_3 ev_58 (by omega) (by omega) (ltr_f (by omega))
                        refine lv_aload_n (pc := 141) E.1 E.2.1 dX8_step_141 rfl (lv_at hl43 0 rfl) ?_
                        refine cq_i (pc := 142) (ws' := (fun (u : Unit) => (WZ_Tape cI cJ ad mr (upd (upd mi 4 x_40) 7 x_6) mf mg))) hw62 [0, 1] [] [0, 1] rfl rfl (by decide) (by decide) (fun _ => rfl) (by decide) (rn_V (As := []) (rest := []) E hw62 (t_wordNumberW l D cI cJ _ (ixf [0, 1, 2, 3, 4, 5, 6, 7, 8, 9] mr) (ixf [0, 1, 2, 3, 4, 5, 6, 7, 8, 9] (upd (upd mi 4 x_40) 7 x_6)) (ixf [0, 1, 2, 3, 4, 5, 6, 7, 8, 9] mf) (ixf [0, 1, 2, 3, 4, 5, 6, 7, 8, 9] mg) ad av tf (by show 0 ≤ (mi 2).toInt ∧ (mi 2).toInt ≤ 400; omega) (by show 0 ≤ x_40.toInt; omega) (by show x_40.toInt ≤ (mi 2).toInt; omega) (by show 0 ≤ (mi 3).toInt ∧ (mi 3).toInt ≤ 6; omega) (by show 0 ≤ x_6.toInt; omega) (by show x_6.toInt ≤ x_40.toInt; omega)) (gdV q_729 q_731 q_2 q_160 q_732) hdV_X8_wordNumber ⟨rfl, rfl⟩ ⟨(Nat.le_of_ble_eq_true rfl), (Nat.le_of_ble_eq_true rfl)⟩ ⟨(Nat.le_of_ble_eq_true rfl), (Nat.le_of_ble_eq_true rfl)⟩ xT8_b (xT8_at hX hw62.2.2.1 (va_free hw62.2.1 hw62.2.2.1 hw62.2.2.2 [0, 1] rfl)) 0 8 rfl rfl rfl [0, 1] rfl (by decide) rfl hl43.1 rfl (Nat.le_of_ble_eq_true rfl) dX8_step_142) (fun r_81 u_80 H1 locs hp hw82 => ?_)
                        generalize H1 = H at hw82 ⊢
                        have hw83 : WD D A s.heap (WZ_Tape cI cJ ad mr (upd (upd mi 4 x_40) 7 x_6) mf mg) H locs := hw82
                        obtain ⟨hp_84, hp_85, hp_86⟩ := hp
                        have hp_84 : (-1) ≤ r_81.toInt := hp_84
                        have hp_85 : r_81.toInt ≤ 75 := hp_85
                        have hp_86 : (r_81 : Int32).toInt = scnI (mf 1) x_6.toInt x_40.toInt (sTx (ti (mi 3))) 0 x_6.toInt true := hp_86
                        refine lv_istore_n (pc := 145) (lv' := [(1, .int r_81), (0, .ref (mr 0))]) E.1 E.2.1 dX8_step_145 rfl hl43 (by decide) rfl (fun ls hl87 => ?_)
                        refine lv_aload_n (pc := 146) E.1 E.2.1 dX8_step_146 rfl (lv_at hl87 1 rfl) ?_
                        refine lv_iload_n (pc := 147) E.1 E.2.1 dX8_step_147 rfl (lv_at hl87 0 rfl) ?_
                        refine lv_iconst (pc := 148) (v := (-1)) E.1 E.2.1 dX8_step_148 (by decide +kernel) ?_
                        refine lv_icmp_ne (pc := 149) (tgt := 156) E.1 E.2.1 dX8_step_149 (by decide) (fun c_88 => ?_) (fun c_88 => ?_)
                        · skip
                          have hc_88 := neE (a := r_81.toInt) (b := (-1)) rfl (by decide +kernel) c_88
                          refine lv_sipush (pc := 156) (v := 256) E.1 E.2.1 dX8_step_156 (by decide +kernel) ?_
                          refine lv_iload_n (pc := 159) E.1 E.2.1 dX8_step_159 rfl (lv_at hl87 0 rfl) ?_
                          refine lv_iadd (pc := 160) E.1 E.2.1 dX8_step_160 ?_
                          refine lv_topi (fun v_89 ev_89 => ?_)
                          have hv_89 : v_89.toInt = 256 + r_81.toInt := by rw [ev_89]; exact addE (by decide +kernel) rfl (by omega)
                          refine x_put (pc := 161) (T := TX8) (N := 9) (ci := 8) (ws' := (WZ_Tape cI cJ ad mr (upd (upd (upd mi 4 x_40) 5 v_89) 7 x_6) mf mg)) E hw83 inX8 tyX8_ok nmX8 0 4 q_546 rfl rfl (by decide) rfl rfl rfl rfl (Nat.le_of_ble_eq_true rfl) rfl dX8_step_161 (fun H locs hw90 => ?_)
                          refine lv_goto (pc := 164) (tgt := 234) E.1 E.2.1 dX8_step_164 (by decide) ?_
                          exact em_v (w1 := (fun (u : Int32 × Int32 × Int32 × Int32) => (WZ_Tape cI cJ ad mr (upd (upd (upd (upd mi 4 u.1) 7 u.2.1) 5 u.2.2.1) 6 u.2.2.2) mf mg))) E hr hlk (x_40, x_6, v_89, (mi 6)) hw90 ⟨(by show 0 ≤ x_40.toInt; omega), (by show x_40.toInt ≤ (mi 2).toInt; omega), (show (((mi 8).toInt ≠ 0 → x_6.toInt = (mi 7).toInt ∧ x_40.toInt = (mi 4).toInt ∧ v_89.toInt = (mi 5).toInt ∧ (mi 6).toInt = (mi 6).toInt) ∧ ((mi 8).toInt = 0 → TKS (ti (mi 3)) (mf 1) (mi 2).toInt (mi 4).toInt x_6.toInt x_40.toInt v_89.toInt (mi 6).toInt)) from ⟨fun h => absurd (by omega) h, fun _ => (TKS_let hsk_21 ev_24 (by omega) (by omega) (ltr_t (by omega)) rfl hle_79 hp_86 (by omega) (Or.inr ⟨by omega, by omega⟩))⟩)⟩ (Nat.le_of_ble_eq_true rfl) (Nat.le_of_ble_eq_true rfl) dX8_step_234
                        · skip
                          have hc_88 := eqE (a := r_81.toInt) (b := (-1)) rfl (by decide +kernel) c_88
                          refine lv_iconst (pc := 152) (v := 2) E.1 E.2.1 dX8_step_152 (by decide +kernel) ?_
                          refine lv_goto (pc := 153) (tgt := 161) E.1 E.2.1 dX8_step_153 (by decide) ?_
                          refine x_put (pc := 161) (T := TX8) (N := 9) (ci := 8) (ws' := (WZ_Tape cI cJ ad mr (upd (upd (upd mi 4 x_40) 5 2) 7 x_6) mf mg)) E hw83 inX8 tyX8_ok nmX8 0 4 q_546 rfl rfl (by decide) rfl rfl rfl rfl (Nat.le_of_ble_eq_true rfl) rfl dX8_step_161 (fun H locs hw91 => ?_)
                          refine lv_goto (pc := 164) (tgt := 234) E.1 E.2.1 dX8_step_164 (by decide) ?_
                          exact em_v (w1 := (fun (u : Int32 × Int32 × Int32 × Int32) => (WZ_Tape cI cJ ad mr (upd (upd (upd (upd mi 4 u.1) 7 u.2.1) 5 u.2.2.1) 6 u.2.2.2) mf mg))) E hr hlk (x_40, x_6, 2, (mi 6)) hw91 ⟨(by show 0 ≤ x_40.toInt; have k_0 : (2 : Int32).toInt = 2 := (by decide +kernel); omega), (by show x_40.toInt ≤ (mi 2).toInt; have k_0 : (2 : Int32).toInt = 2 := (by decide +kernel); omega), (show (((mi 8).toInt ≠ 0 → x_6.toInt = (mi 7).toInt ∧ x_40.toInt = (mi 4).toInt ∧ (2 : Int32).toInt = (mi 5).toInt ∧ (mi 6).toInt = (mi 6).toInt) ∧ ((mi 8).toInt = 0 → TKS (ti (mi 3)) (mf 1) (mi 2).toInt (mi 4).toInt x_6.toInt x_40.toInt (2 : Int32).toInt (mi 6).toInt)) from ⟨fun h => absurd (by omega) h, fun _ => (TKS_let hsk_21 ev_24 (by omega) (by omega) (ltr_t (by omega)) rfl hle_79 hp_86 (by omega) (Or.inl ⟨by omega, by decide +kernel⟩))⟩)⟩ (Nat.le_of_ble_eq_true rfl) (Nat.le_of_ble_eq_true rfl) dX8_step_234
                      · skip
                        have ha_69 : 91 ≤ v_58.toInt := ha_69
                        have ha_70 : v_58.toInt ≤ 96 := ha_70
                        refine lv_if_eq (pc := 125) (tgt := 141) E.1 E.2.1 dX8_step_125 (by decide) (fun _ => ?_) (fun c_92 => absurd (meqE (a := 0) (b := 0) (by decide +kernel) (by decide +kernel) (by omega)) c_92)
                        have hle_93 : x_40.toInt = rnI ltrB (mf 1) (mi 2).toInt x_6.toInt := rnI_stop hi_40_3 ev_58 (by omega) (by omega) (ltr_f (by omega))
                        refine lv_aload_n (pc := 141) E.1 E.2.1 dX8_step_141 rfl (lv_at hl43 0 rfl) ?_
                        refine cq_i (pc := 142) (ws' := (fun (u : Unit) => (WZ_Tape cI cJ ad mr (upd (upd mi 4 x_40) 7 x_6) mf mg))) hw62 [0, 1] [] [0, 1] rfl rfl (by decide) (by decide) (fun _ => rfl) (by decide) (rn_V (As := []) (rest := []) E hw62 (t_wordNumberW l D cI cJ _ (ixf [0, 1, 2, 3, 4, 5, 6, 7, 8, 9] mr) (ixf [0, 1, 2, 3, 4, 5, 6, 7, 8, 9] (upd (upd mi 4 x_40) 7 x_6)) (ixf [0, 1, 2, 3, 4, 5, 6, 7, 8, 9] mf) (ixf [0, 1, 2, 3, 4, 5, 6, 7, 8, 9] mg) ad av tf (by show 0 ≤ (mi 2).toInt ∧ (mi 2).toInt ≤ 400; omega) (by show 0 ≤ x_40.toInt; omega) (by show x_40.toInt ≤ (mi 2).toInt; omega) (by show 0 ≤ (mi 3).toInt ∧ (mi 3).toInt ≤ 6; omega) (by show 0 ≤ x_6.toInt; omega) (by show x_6.toInt ≤ x_40.toInt; omega)) (gdV q_729 q_731 q_2 q_160 q_732) hdV_X8_wordNumber ⟨rfl, rfl⟩ ⟨(Nat.le_of_ble_eq_true rfl), (Nat.le_of_ble_eq_true rfl)⟩ ⟨(Nat.le_of_ble_eq_true rfl), (Nat.le_of_ble_eq_true rfl)⟩ xT8_b (xT8_at hX hw62.2.2.1 (va_free hw62.2.1 hw62.2.2.1 hw62.2.2.2 [0, 1] rfl)) 0 8 rfl rfl rfl [0, 1] rfl (by decide) rfl hl43.1 rfl (Nat.le_of_ble_eq_true rfl) dX8_step_142) (fun r_95 u_94 H1 locs hp hw96 => ?_)
                        generalize H1 = H at hw96 ⊢
                        have hw97 : WD D A s.heap (WZ_Tape cI cJ ad mr (upd (upd mi 4 x_40) 7 x_6) mf mg) H locs := hw96
                        obtain ⟨hp_98, hp_99, hp_100⟩ := hp
                        have hp_98 : (-1) ≤ r_95.toInt := hp_98
                        have hp_99 : r_95.toInt ≤ 75 := hp_99
                        have hp_100 : (r_95 : Int32).toInt = scnI (mf 1) x_6.toInt x_40.toInt (sTx (ti (mi 3))) 0 x_6.toInt true := hp_100
                        refine lv_istore_n (pc := 145) (lv' := [(1, .int r_95), (0, .ref (mr 0))]) E.1 E.2.1 dX8_step_145 rfl hl43 (by decide) rfl (fun ls hl101 => ?_)
                        refine lv_aload_n (pc := 146) E.1 E.2.1 dX8_step_146 rfl (lv_at hl101 1 rfl) ?_
                        refine lv_iload_n (pc := 147) E.1 E.2.1 dX8_step_147 rfl (lv_at hl101 0 rfl) ?_
                        refine lv_iconst (pc := 148) (v := (-1)) E.1 E.2.1 dX8_step_148 (by decide +kernel) ?_
                        refine lv_icmp_ne (pc := 149) (tgt := 156) E.1 E.2.1 dX8_step_149 (by decide) (fun c_102 => ?_) (fun c_102 => ?_)
                        · skip
                          have hc_102 := neE (a := r_95.toInt) (b := (-1)) rfl (by decide +kernel) c_102
                          refine lv_sipush (pc := 156) (v := 256) E.1 E.2.1 dX8_step_156 (by decide +kernel) ?_
                          refine lv_iload_n (pc := 159) E.1 E.2.1 dX8_step_159 rfl (lv_at hl101 0 rfl) ?_
                          refine lv_iadd (pc := 160) E.1 E.2.1 dX8_step_160 ?_
                          refine lv_topi (fun v_103 ev_103 => ?_)
                          have hv_103 : v_103.toInt = 256 + r_95.toInt := by rw [ev_103]; exact addE (by decide +kernel) rfl (by omega)
                          refine x_put (pc := 161) (T := TX8) (N := 9) (ci := 8) (ws' := (WZ_Tape cI cJ ad mr (upd (upd (upd mi 4 x_40) 5 v_103) 7 x_6) mf mg)) E hw97 inX8 tyX8_ok nmX8 0 4 q_546 rfl rfl (by decide) rfl rfl rfl rfl (Nat.le_of_ble_eq_true rfl) rfl dX8_step_161 (fun H locs hw104 => ?_)
                          refine lv_goto (pc := 164) (tgt := 234) E.1 E.2.1 dX8_step_164 (by decide) ?_
                          exact em_v (w1 := (fun (u : Int32 × Int32 × Int32 × Int32) => (WZ_Tape cI cJ ad mr (upd (upd (upd (upd mi 4 u.1) 7 u.2.1) 5 u.2.2.1) 6 u.2.2.2) mf mg))) E hr hlk (x_40, x_6, v_103, (mi 6)) hw104 ⟨(by show 0 ≤ x_40.toInt; omega), (by show x_40.toInt ≤ (mi 2).toInt; omega), (show (((mi 8).toInt ≠ 0 → x_6.toInt = (mi 7).toInt ∧ x_40.toInt = (mi 4).toInt ∧ v_103.toInt = (mi 5).toInt ∧ (mi 6).toInt = (mi 6).toInt) ∧ ((mi 8).toInt = 0 → TKS (ti (mi 3)) (mf 1) (mi 2).toInt (mi 4).toInt x_6.toInt x_40.toInt v_103.toInt (mi 6).toInt)) from ⟨fun h => absurd (by omega) h, fun _ => (TKS_let hsk_21 ev_24 (by omega) (by omega) (ltr_t (by omega)) rfl hle_93 hp_100 (by omega) (Or.inr ⟨by omega, by omega⟩))⟩)⟩ (Nat.le_of_ble_eq_true rfl) (Nat.le_of_ble_eq_true rfl) dX8_step_234
                        · skip
                          have hc_102 := eqE (a := r_95.toInt) (b := (-1)) rfl (by decide +kernel) c_102
                          refine lv_iconst (pc := 152) (v := 2) E.1 E.2.1 dX8_step_152 (by decide +kernel) ?_
                          refine lv_goto (pc := 153) (tgt := 161) E.1 E.2.1 dX8_step_153 (by decide) ?_
                          refine x_put (pc := 161) (T := TX8) (N := 9) (ci := 8) (ws' := (WZ_Tape cI cJ ad mr (upd (upd (upd mi 4 x_40) 5 2) 7 x_6) mf mg)) E hw97 inX8 tyX8_ok nmX8 0 4 q_546 rfl rfl (by decide) rfl rfl rfl rfl (Nat.le_of_ble_eq_true rfl) rfl dX8_step_161 (fun H locs hw105 => ?_)
                          refine lv_goto (pc := 164) (tgt := 234) E.1 E.2.1 dX8_step_164 (by decide) ?_
                          exact em_v (w1 := (fun (u : Int32 × Int32 × Int32 × Int32) => (WZ_Tape cI cJ ad mr (upd (upd (upd (upd mi 4 u.1) 7 u.2.1) 5 u.2.2.1) 6 u.2.2.2) mf mg))) E hr hlk (x_40, x_6, 2, (mi 6)) hw105 ⟨(by show 0 ≤ x_40.toInt; have k_0 : (2 : Int32).toInt = 2 := (by decide +kernel); omega), (by show x_40.toInt ≤ (mi 2).toInt; have k_0 : (2 : Int32).toInt = 2 := (by decide +kernel); omega), (show (((mi 8).toInt ≠ 0 → x_6.toInt = (mi 7).toInt ∧ x_40.toInt = (mi 4).toInt ∧ (2 : Int32).toInt = (mi 5).toInt ∧ (mi 6).toInt = (mi 6).toInt) ∧ ((mi 8).toInt = 0 → TKS (ti (mi 3)) (mf 1) (mi 2).toInt (mi 4).toInt x_6.toInt x_40.toInt (2 : Int32).toInt (mi 6).toInt)) from ⟨fun h => absurd (by omega) h, fun _ => (TKS_let hsk_21 ev_24 (by omega) (by omega) (ltr_t (by omega)) rfl hle_93 hp_100 (by omega) (Or.inl ⟨by omega, by decide +kernel⟩))⟩)⟩ (Nat.le_of_ble_eq_true rfl) (Nat.le_of_ble_eq_true rfl) dX8_step_234
                      · skip
                        have ha_71 : 123 ≤ v_58.toInt := ha_71
                        refine lv_if_eq (pc := 125) (tgt := 141) E.1 E.2.1 dX8_step_125 (by decide) (fun _ => ?_) (fun c_106 => absurd (meqE (a := 0) (b := 0) (by decide +kernel) (by decide +kernel) (by omega)) c_106)
                        have hle_107 : x_40.toInt = rnI ltrB (mf 1) (mi 2).toInt x_6.toInt := rnI_stop hi_40_3 ev_58 (by omega) (by omega) (ltr_f (by omega))
                        refine lv_aload_n (pc := 141) E.1 E.2.1 dX8_step_141 rfl (lv_at hl43 0 rfl) ?_
                        refine cq_i (pc := 142) (ws' := (fun (u : Unit) => (WZ_Tape cI cJ ad mr (upd (upd mi 4 x_40) 7 x_6) mf mg))) hw62 [0, 1] [] [0, 1] rfl rfl (by decide) (by decide) (fun _ => rfl) (by decide) (rn_V (As := []) (rest := []) E hw62 (t_wordNumberW l D cI cJ _ (ixf [0, 1, 2, 3, 4, 5, 6, 7, 8, 9] mr) (ixf [0, 1, 2, 3, 4, 5, 6, 7, 8, 9] (upd (upd mi 4 x_40) 7 x_6)) (ixf [0, 1, 2, 3, 4, 5, 6, 7, 8, 9] mf) (ixf [0, 1, 2, 3, 4, 5, 6, 7, 8, 9] mg) ad av tf (by show 0 ≤ (mi 2).toInt ∧ (mi 2).toInt ≤ 400; omega) (by show 0 ≤ x_40.toInt; omega) (by show x_40.toInt ≤ (mi 2).toInt; omega) (by show 0 ≤ (mi 3).toInt ∧ (mi 3).toInt ≤ 6; omega) (by show 0 ≤ x_6.toInt; omega) (by show x_6.toInt ≤ x_40.toInt; omega)) (gdV q_729 q_731 q_2 q_160 q_732) hdV_X8_wordNumber ⟨rfl, rfl⟩ ⟨(Nat.le_of_ble_eq_true rfl), (Nat.le_of_ble_eq_true rfl)⟩ ⟨(Nat.le_of_ble_eq_true rfl), (Nat.le_of_ble_eq_true rfl)⟩ xT8_b (xT8_at hX hw62.2.2.1 (va_free hw62.2.1 hw62.2.2.1 hw62.2.2.2 [0, 1] rfl)) 0 8 rfl rfl rfl [0, 1] rfl (by decide) rfl hl43.1 rfl (Nat.le_of_ble_eq_true rfl) dX8_step_142) (fun r_109 u_108 H1 locs hp hw110 => ?_)
                        generalize H1 = H at hw110 ⊢
                        have hw111 : WD D A s.heap (WZ_Tape cI cJ ad mr (upd (upd mi 4 x_40) 7 x_6) mf mg) H locs := hw110
                        obtain ⟨hp_112, hp_113, hp_114⟩ := hp
                        have hp_112 : (-1) ≤ r_109.toInt := hp_112
                        have hp_113 : r_109.toInt ≤ 75 := hp_113
                        have hp_114 : (r_109 : Int32).toInt = scnI (mf 1) x_6.toInt x_40.toInt (sTx (ti (mi 3))) 0 x_6.toInt true := hp_114
                        refine lv_istore_n (pc := 145) (lv' := [(1, .int r_109), (0, .ref (mr 0))]) E.1 E.2.1 dX8_step_145 rfl hl43 (by decide) rfl (fun ls hl115 => ?_)
                        refine lv_aload_n (pc := 146) E.1 E.2.1 dX8_step_146 rfl (lv_at hl115 1 rfl) ?_
                        refine lv_iload_n (pc := 147) E.1 E.2.1 dX8_step_147 rfl (lv_at hl115 0 rfl) ?_
                        refine lv_iconst (pc := 148) (v := (-1)) E.1 E.2.1 dX8_step_148 (by decide +kernel) ?_
                        refine lv_icmp_ne (pc := 149) (tgt := 156) E.1 E.2.1 dX8_step_149 (by decide) (fun c_116 => ?_) (fun c_116 => ?_)
                        · skip
                          have hc_116 := neE (a := r_109.toInt) (b := (-1)) rfl (by decide +kernel) c_116
                          refine lv_sipush (pc := 156) (v := 256) E.1 E.2.1 dX8_step_156 (by decide +kernel) ?_
                          refine lv_iload_n (pc := 159) E.1 E.2.1 dX8_step_159 rfl (lv_at hl115 0 rfl) ?_
                          refine lv_iadd (pc := 160) E.1 E.2.1 dX8_step_160 ?_
                          refine lv_topi (fun v_117 ev_117 => ?_)
                          have hv_117 : v_117.toInt = 256 + r_109.toInt := by rw [ev_117]; exact addE (by decide +kernel) rfl (by omega)
                          refine x_put (pc := 161) (T := TX8) (N := 9) (ci := 8) (ws' := (WZ_Tape cI cJ ad mr (upd (upd (upd mi 4 x_40) 5 v_117) 7 x_6) mf mg)) E hw111 inX8 tyX8_ok nmX8 0 4 q_546 rfl rfl (by decide) rfl rfl rfl rfl (Nat.le_of_ble_eq_true rfl) rfl dX8_step_161 (fun H locs hw118 => ?_)
                          refine lv_goto (pc := 164) (tgt := 234) E.1 E.2.1 dX8_step_164 (by decide) ?_
                          exact em_v (w1 := (fun (u : Int32 × Int32 × Int32 × Int32) => (WZ_Tape cI cJ ad mr (upd (upd (upd (upd mi 4 u.1) 7 u.2.1) 5 u.2.2.1) 6 u.2.2.2) mf mg))) E hr hlk (x_40, x_6, v_117, (mi 6)) hw118 ⟨(by show 0 ≤ x_40.toInt; omega), (by show x_40.toInt ≤ (mi 2).toInt; omega), (show (((mi 8).toInt ≠ 0 → x_6.toInt = (mi 7).toInt ∧ x_40.toInt = (mi 4).toInt ∧ v_117.toInt = (mi 5).toInt ∧ (mi 6).toInt = (mi 6).toInt) ∧ ((mi 8).toInt = 0 → TKS (ti (mi 3)) (mf 1) (mi 2).toInt (mi 4).toInt x_6.toInt x_40.toInt v_117.toInt (mi 6).toInt)) from ⟨fun h => absurd (by omega) h, fun _ => (TKS_let hsk_21 ev_24 (by omega) (by omega) (ltr_t (by omega)) rfl hle_107 hp_114 (by omega) (Or.inr ⟨by omega, by omega⟩))⟩)⟩ (Nat.le_of_ble_eq_true rfl) (Nat.le_of_ble_eq_true rfl) dX8_step_234
                        · skip
                          have hc_116 := eqE (a := r_109.toInt) (b := (-1)) rfl (by decide +kernel) c_116
                          refine lv_iconst (pc := 152) (v := 2) E.1 E.2.1 dX8_step_152 (by decide +kernel) ?_
                          refine lv_goto (pc := 153) (tgt := 161) E.1 E.2.1 dX8_step_153 (by decide) ?_
                          refine x_put (pc := 161) (T := TX8) (N := 9) (ci := 8) (ws' := (WZ_Tape cI cJ ad mr (upd (upd (upd mi 4 x_40) 5 2) 7 x_6) mf mg)) E hw111 inX8 tyX8_ok nmX8 0 4 q_546 rfl rfl (by decide) rfl rfl rfl rfl (Nat.le_of_ble_eq_true rfl) rfl dX8_step_161 (fun H locs hw119 => ?_)
                          refine lv_goto (pc := 164) (tgt := 234) E.1 E.2.1 dX8_step_164 (by decide) ?_
                          exact em_v (w1 := (fun (u : Int32 × Int32 × Int32 × Int32) => (WZ_Tape cI cJ ad mr (upd (upd (upd (upd mi 4 u.1) 7 u.2.1) 5 u.2.2.1) 6 u.2.2.2) mf mg))) E hr hlk (x_40, x_6, 2, (mi 6)) hw119 ⟨(by show 0 ≤ x_40.toInt; have k_0 : (2 : Int32).toInt = 2 := (by decide +kernel); omega), (by show x_40.toInt ≤ (mi 2).toInt; have k_0 : (2 : Int32).toInt = 2 := (by decide +kernel); omega), (show (((mi 8).toInt ≠ 0 → x_6.toInt = (mi 7).toInt ∧ x_40.toInt = (mi 4).toInt ∧ (2 : Int32).toInt = (mi 5).toInt ∧ (mi 6).toInt = (mi 6).toInt) ∧ ((mi 8).toInt = 0 → TKS (ti (mi 3)) (mf 1) (mi 2).toInt (mi 4).toInt x_6.toInt x_40.toInt (2 : Int32).toInt (mi 6).toInt)) from ⟨fun h => absurd (by omega) h, fun _ => (TKS_let hsk_21 ev_24 (by omega) (by omega) (ltr_t (by omega)) rfl hle_107 hp_114 (by omega) (Or.inl ⟨by omega, by decide +kernel⟩))⟩)⟩ (Nat.le_of_ble_eq_true rfl) (Nat.le_of_ble_eq_true rfl) dX8_step_234
                exact loop_39 (Int.toNat ((mi 2).toInt - x_6.toInt) + 1) x_6 _ _ _ ⟨(by show 0 ≤ x_6.toInt; omega), (by show x_6.toInt ≤ (mi 2).toInt; omega), (by show x_6.toInt ≤ x_6.toInt; omega), rfl⟩ (by omega) hw28 (lv_sub hl9 [0] rfl)
              · skip
                have ha_32 : 65 ≤ v_24.toInt := ha_32
                have ha_33 : v_24.toInt ≤ 90 := ha_33
                refine lv_if_eq (pc := 99) (tgt := 167) E.1 E.2.1 dX8_step_99 (by decide) (fun c_120 => absurd c_120 (mneE (a := 1) (b := 0) (by decide +kernel) (by decide +kernel) (by omega))) (fun _ => ?_)
                have loop_121 : ∀ (k : Nat) (x_122 : Int32) (H : Heap) (locs : List Loc) (ls : Array Slot), (0 ≤ x_122.toInt) ∧ (x_122.toInt ≤ (mi 2).toInt) ∧ (x_6.toInt ≤ x_122.toInt) ∧ (rnI ltrB (mf 1) (mi 2).toInt x_122.toInt = rnI ltrB (mf 1) (mi 2).toInt x_6.toInt) → (mi 2).toInt - x_122.toInt < (k : Int) → WD D A s.heap (WZ_Tape cI cJ ad mr (upd (upd mi 4 x_122) 7 x_6) mf mg) H locs → lv_has ls 2 [(0, .ref (mr 0))] → W p l e ({ frames := 6, cells := 0, slots := 0, locals := 150 } : Room) s m ([.ref (mr 0)] : List Value).toArray below meth c H locs 0 0 (MQ below (va_Qv (fun (u : Int32 × Int32 × Int32 × Int32) => (0 ≤ u.1.toInt) ∧ (u.1.toInt ≤ (mi 2).toInt) ∧ ((((mi 8).toInt ≠ 0 → u.2.1.toInt = (mi 7).toInt ∧ u.1.toInt = (mi 4).toInt ∧ u.2.2.1.toInt = (mi 5).toInt ∧ u.2.2.2.toInt = (mi 6).toInt) ∧ ((mi 8).toInt = 0 → TKS (ti (mi 3)) (mf 1) (mi 2).toInt (mi 4).toInt u.2.1.toInt u.1.toInt u.2.2.1.toInt u.2.2.2.toInt)))) (fun u => QW D cI cJ A ((fun (u : Int32 × Int32 × Int32 × Int32) => (WZ_Tape cI cJ ad mr (upd (upd (upd (upd mi 4 u.1) 7 u.2.1) 5 u.2.2.1) 6 u.2.2.2) mf mg)) u)) A) ([.ref (mr 0)] : List Value).toArray s 0 0 A) (F0 m 102 ls []) := by
                  intro k
                  induction k with
                  | zero =>
                    intro x_122 _ _ _ hinv hm
                    obtain ⟨hi_122_0, hi_122_1, hi_122_2, hi_122_3⟩ := hinv
                    exact absurd hm (by omega)
                  | succ k ih_123 =>
                    intro x_122 H locs ls hinv hm hw124 hl125
                    obtain ⟨hi_122_0, hi_122_1, hi_122_2, hi_122_3⟩ := hinv
                    refine lv_aload_n (pc := 102) E.1 E.2.1 dX8_step_102 rfl (lv_at hl125 0 rfl) ?_
                    refine x_get (pc := 103) (T := TX8) (N := 9) (ci := 8) (v := .int x_122) E hw124 inX8 0 3 q_541 rfl rfl (by decide) rfl rfl dX8_step_103 ?_
                    refine lv_aload_n (pc := 106) E.1 E.2.1 dX8_step_106 rfl (lv_at hl125 0 rfl) ?_
                    refine x_get (pc := 107) (T := TX8) (N := 9) (ci := 8) (v := .int (mi 2)) E hw124 inX8 0 1 q_538 rfl rfl (by decide) rfl rfl dX8_step_107 ?_
                    refine lv_icmp_ge (pc := 110) (tgt := 141) E.1 E.2.1 dX8_step_110 (by decide) (fun c_126 => ?_) (fun c_126 => ?_)
                    · skip
                      have hc_126 := leE (a := (mi 2).toInt) (b := x_122.toInt) rfl rfl c_126
                      have hle_127 : x_122.toInt = rnI ltrB (mf 1) (mi 2).toInt x_6.toInt := rnI_full hi_122_3 (by omega)
                      refine lv_aload_n (pc := 141) E.1 E.2.1 dX8_step_141 rfl (lv_at hl125 0 rfl) ?_
                      refine cq_i (pc := 142) (ws' := (fun (u : Unit) => (WZ_Tape cI cJ ad mr (upd (upd mi 4 x_122) 7 x_6) mf mg))) hw124 [0, 1] [] [0, 1] rfl rfl (by decide) (by decide) (fun _ => rfl) (by decide) (rn_V (As := []) (rest := []) E hw124 (t_wordNumberW l D cI cJ _ (ixf [0, 1, 2, 3, 4, 5, 6, 7, 8, 9] mr) (ixf [0, 1, 2, 3, 4, 5, 6, 7, 8, 9] (upd (upd mi 4 x_122) 7 x_6)) (ixf [0, 1, 2, 3, 4, 5, 6, 7, 8, 9] mf) (ixf [0, 1, 2, 3, 4, 5, 6, 7, 8, 9] mg) ad av tf (by show 0 ≤ (mi 2).toInt ∧ (mi 2).toInt ≤ 400; omega) (by show 0 ≤ x_122.toInt; omega) (by show x_122.toInt ≤ (mi 2).toInt; omega) (by show 0 ≤ (mi 3).toInt ∧ (mi 3).toInt ≤ 6; omega) (by show 0 ≤ x_6.toInt; omega) (by show x_6.toInt ≤ x_122.toInt; omega)) (gdV q_729 q_731 q_2 q_160 q_732) hdV_X8_wordNumber ⟨rfl, rfl⟩ ⟨(Nat.le_of_ble_eq_true rfl), (Nat.le_of_ble_eq_true rfl)⟩ ⟨(Nat.le_of_ble_eq_true rfl), (Nat.le_of_ble_eq_true rfl)⟩ xT8_b (xT8_at hX hw124.2.2.1 (va_free hw124.2.1 hw124.2.2.1 hw124.2.2.2 [0, 1] rfl)) 0 8 rfl rfl rfl [0, 1] rfl (by decide) rfl hl125.1 rfl (Nat.le_of_ble_eq_true rfl) dX8_step_142) (fun r_129 u_128 H1 locs hp hw130 => ?_)
                      generalize H1 = H at hw130 ⊢
                      have hw131 : WD D A s.heap (WZ_Tape cI cJ ad mr (upd (upd mi 4 x_122) 7 x_6) mf mg) H locs := hw130
                      obtain ⟨hp_132, hp_133, hp_134⟩ := hp
                      have hp_132 : (-1) ≤ r_129.toInt := hp_132
                      have hp_133 : r_129.toInt ≤ 75 := hp_133
                      have hp_134 : (r_129 : Int32).toInt = scnI (mf 1) x_6.toInt x_122.toInt (sTx (ti (mi 3))) 0 x_6.toInt true := hp_134
                      refine lv_istore_n (pc := 145) (lv' := [(1, .int r_129), (0, .ref (mr 0))]) E.1 E.2.1 dX8_step_145 rfl hl125 (by decide) rfl (fun ls hl135 => ?_)
                      refine lv_aload_n (pc := 146) E.1 E.2.1 dX8_step_146 rfl (lv_at hl135 1 rfl) ?_
                      refine lv_iload_n (pc := 147) E.1 E.2.1 dX8_step_147 rfl (lv_at hl135 0 rfl) ?_
                      refine lv_iconst (pc := 148) (v := (-1)) E.1 E.2.1 dX8_step_148 (by decide +kernel) ?_
                      refine lv_icmp_ne (pc := 149) (tgt := 156) E.1 E.2.1 dX8_step_149 (by decide) (fun c_136 => ?_) (fun c_136 => ?_)
                      · skip
                        have hc_136 := neE (a := r_129.toInt) (b := (-1)) rfl (by decide +kernel) c_136
                        refine lv_sipush (pc := 156) (v := 256) E.1 E.2.1 dX8_step_156 (by decide +kernel) ?_
                        refine lv_iload_n (pc := 159) E.1 E.2.1 dX8_step_159 rfl (lv_at hl135 0 rfl) ?_
                        refine lv_iadd (pc := 160) E.1 E.2.1 dX8_step_160 ?_
                        refine lv_topi (fun v_137 ev_137 => ?_)
                        have hv_137 : v_137.toInt = 256 + r_129.toInt := by rw [ev_137]; exact addE (by decide +kernel) rfl (by omega)
                        refine x_put (pc := 161) (T := TX8) (N := 9) (ci := 8) (ws' := (WZ_Tape cI cJ ad mr (upd (upd (upd mi 4 x_122) 5 v_137) 7 x_6) mf mg)) E hw131 inX8 tyX8_ok nmX8 0 4 q_546 rfl rfl (by decide) rfl rfl rfl rfl (Nat.le_of_ble_eq_true rfl) rfl dX8_step_161 (fun H locs hw138 => ?_)
                        refine lv_goto (pc := 164) (tgt := 234) E.1 E.2.1 dX8_step_164 (by decide) ?_
                        exact em_v (w1 := (fun (u : Int32 × Int32 × Int32 × Int32) => (WZ_Tape cI cJ ad mr (upd (upd (upd (upd mi 4 u.1) 7 u.2.1) 5 u.2.2.1) 6 u.2.2.2) mf mg))) E hr hlk (x_122, x_6, v_137, (mi 6)) hw138 ⟨(by show 0 ≤ x_122.toInt; omega), (by show x_122.toInt ≤ (mi 2).toInt; omega), (show (((mi 8).toInt ≠ 0 → x_6.toInt = (mi 7).toInt ∧ x_122.toInt = (mi 4).toInt ∧ v_137.toInt = (mi 5).toInt ∧ (mi 6).toInt = (mi 6).toInt) ∧ ((mi 8).toInt = 0 → TKS (ti (mi 3)) (mf 1) (mi 2).toInt (mi 4).toInt x_6.toInt x_122.toInt v_137.toInt (mi 6).toInt)) from ⟨fun h => absurd (by omega) h, fun _ => (TKS_let hsk_21 ev_24 (by omega) (by omega) (ltr_t (by omega)) rfl hle_127 hp_134 (by omega) (Or.inr ⟨by omega, by omega⟩))⟩)⟩ (Nat.le_of_ble_eq_true rfl) (Nat.le_of_ble_eq_true rfl) dX8_step_234
                      · skip
                        have hc_136 := eqE (a := r_129.toInt) (b := (-1)) rfl (by decide +kernel) c_136
                        refine lv_iconst (pc := 152) (v := 2) E.1 E.2.1 dX8_step_152 (by decide +kernel) ?_
                        refine lv_goto (pc := 153) (tgt := 161) E.1 E.2.1 dX8_step_153 (by decide) ?_
                        refine x_put (pc := 161) (T := TX8) (N := 9) (ci := 8) (ws' := (WZ_Tape cI cJ ad mr (upd (upd (upd mi 4 x_122) 5 2) 7 x_6) mf mg)) E hw131 inX8 tyX8_ok nmX8 0 4 q_546 rfl rfl (by decide) rfl rfl rfl rfl (Nat.le_of_ble_eq_true rfl) rfl dX8_step_161 (fun H locs hw139 => ?_)
                        refine lv_goto (pc := 164) (tgt := 234) E.1 E.2.1 dX8_step_164 (by decide) ?_
                        exact em_v (w1 := (fun (u : Int32 × Int32 × Int32 × Int32) => (WZ_Tape cI cJ ad mr (upd (upd (upd (upd mi 4 u.1) 7 u.2.1) 5 u.2.2.1) 6 u.2.2.2) mf mg))) E hr hlk (x_122, x_6, 2, (mi 6)) hw139 ⟨(by show 0 ≤ x_122.toInt; have k_0 : (2 : Int32).toInt = 2 := (by decide +kernel); omega), (by show x_122.toInt ≤ (mi 2).toInt; have k_0 : (2 : Int32).toInt = 2 := (by decide +kernel); omega), (show (((mi 8).toInt ≠ 0 → x_6.toInt = (mi 7).toInt ∧ x_122.toInt = (mi 4).toInt ∧ (2 : Int32).toInt = (mi 5).toInt ∧ (mi 6).toInt = (mi 6).toInt) ∧ ((mi 8).toInt = 0 → TKS (ti (mi 3)) (mf 1) (mi 2).toInt (mi 4).toInt x_6.toInt x_122.toInt (2 : Int32).toInt (mi 6).toInt)) from ⟨fun h => absurd (by omega) h, fun _ => (TKS_let hsk_21 ev_24 (by omega) (by omega) (ltr_t (by omega)) rfl hle_127 hp_134 (by omega) (Or.inl ⟨by omega, by decide +kernel⟩))⟩)⟩ (Nat.le_of_ble_eq_true rfl) (Nat.le_of_ble_eq_true rfl) dX8_step_234
                    · skip
                      have hc_126 := nleE (a := (mi 2).toInt) (b := x_122.toInt) rfl rfl c_126
                      refine lv_aload_n (pc := 113) E.1 E.2.1 dX8_step_113 rfl (lv_at hl125 0 rfl) ?_
                      refine x_get (pc := 114) (T := TX8) (N := 9) (ci := 8) (v := .ref (mr 1)) E hw124 inX8 0 0 q_537 rfl rfl (by decide) rfl rfl dX8_step_114 ?_
                      refine lv_aload_n (pc := 117) E.1 E.2.1 dX8_step_117 rfl (lv_at hl125 0 rfl) ?_
                      refine x_get (pc := 118) (T := TX8) (N := 9) (ci := 8) (v := .int x_122) E hw124 inX8 0 3 q_541 rfl rfl (by decide) rfl rfl dX8_step_118 ?_
                      refine x_iald (pc := 121) (f := (mf 1)) E hw124 1 rfl (inbE (a := x_122.toInt) rfl (by omega)) dX8_step_121 ?_
                      refine lv_topi (fun v_140 ev_140 => ?_)
                      have hbv_140 := allR_at (n := 400) (lo := 0) (hi := 255) a_signs ev_140 (by show 0 ≤ x_122.toInt ∧ _; omega)
                      refine cq_i (pc := 122) (ws' := (fun (u : Unit) => (WZ_Tape cI cJ ad mr (upd (upd mi 4 x_122) 7 x_6) mf mg))) hw124 [] [0, 1] [0, 1] rfl rfl (by decide) (by decide) (fun _ => rfl) (by decide) (rn_S (As := [.int v_140]) (rest := []) E hw124 (t_isLetterW l D cI cJ _ (ixf [] mr) (ixf [] (upd (upd mi 4 x_122) 7 x_6)) (ixf [] mf) (ixf [] mg) v_140) (gdS q_726 q_727 q_160 q_728) hdV_X8_isLetter ⟨rfl, rfl⟩ ⟨(Nat.le_of_ble_eq_true rfl), (Nat.le_of_ble_eq_true rfl)⟩ ⟨(Nat.le_of_ble_eq_true rfl), (Nat.le_of_ble_eq_true rfl)⟩ xT_b xT_at [] rfl (by decide) rfl hl125.1 rfl (Nat.le_of_ble_eq_true rfl) dX8_step_122) (fun r_142 u_141 H1 locs hp hw143 => ?_)
                      generalize H1 = H at hw143 ⊢
                      have hw144 : WD D A s.heap (WZ_Tape cI cJ ad mr (upd (upd mi 4 x_122) 7 x_6) mf mg) H locs := hw143
                      have hp_145 := hp
                      rcases hp_145 with ⟨rfl, ha_146, ha_147⟩ | ⟨rfl, ha_148, ha_149⟩ | ⟨rfl, ha_150⟩ | ⟨rfl, ha_151, ha_152⟩ | ⟨rfl, ha_153⟩
                      · skip
                        have ha_146 : 97 ≤ v_140.toInt := ha_146
                        have ha_147 : v_140.toInt ≤ 122 := ha_147
                        refine lv_if_eq (pc := 125) (tgt := 141) E.1 E.2.1 dX8_step_125 (by decide) (fun c_154 => absurd c_154 (mneE (a := 1) (b := 0) (by decide +kernel) (by decide +kernel) (by omega))) (fun _ => ?_)
                        refine lv_aload_n (pc := 128) E.1 E.2.1 dX8_step_128 rfl (lv_at hl125 0 rfl) ?_
                        refine lv_dup (pc := 129) E.1 E.2.1 dX8_step_129 rfl ?_
                        refine x_get (pc := 130) (T := TX8) (N := 9) (ci := 8) (v := .int x_122) E hw144 inX8 0 3 q_541 rfl rfl (by decide) rfl rfl dX8_step_130 ?_
                        refine lv_iconst (pc := 133) (v := 1) E.1 E.2.1 dX8_step_133 (by decide +kernel) ?_
                        refine lv_iadd (pc := 134) E.1 E.2.1 dX8_step_134 ?_
                        refine lv_topi (fun v_155 ev_155 => ?_)
                        have hv_155 : v_155.toInt = x_122.toInt + 1 := by rw [ev_155]; exact addE rfl (by decide +kernel) (by omega)
                        refine x_put (pc := 135) (T := TX8) (N := 9) (ci := 8) (ws' := (WZ_Tape cI cJ ad mr (upd (upd mi 4 v_155) 7 x_6) mf mg)) E hw144 inX8 tyX8_ok nmX8 0 3 q_541 rfl rfl (by decide) rfl rfl rfl rfl (Nat.le_of_ble_eq_true rfl) rfl dX8_step_135 (fun H locs hw156 => ?_)
                        refine lv_goto (pc := 138) (tgt := 102) E.1 E.2.1 dX8_step_138 (by decide) ?_
                        exact ih_123 v_155 _ _ _ ⟨(by show 0 ≤ v_155.toInt; omega), (by show v_155.toInt ≤ (mi 2).toInt; omega), (by show x_6.toInt ≤ v_155.toInt; omega), (rnI_step hi_122_3 ev_140 (by omega) (by omega) (ltr_t (by omega)) (m := v_155.toInt) (by omega))⟩ (by omega) hw156 (lv_sub hl125 [0] rfl)
                      · skip
                        have ha_148 : 65 ≤ v_140.toInt := ha_148
                        have ha_149 : v_140.toInt ≤ 90 := ha_149
                        refine lv_if_eq (pc := 125) (tgt := 141) E.1 E.2.1 dX8_step_125 (by decide) (fun c_157 => absurd c_157 (mneE (a := 1) (b := 0) (by decide +kernel) (by decide +kernel) (by omega))) (fun _ => ?_)
                        refine lv_aload_n (pc := 128) E.1 E.2.1 dX8_step_128 rfl (lv_at hl125 0 rfl) ?_
                        refine lv_dup (pc := 129) E.1 E.2.1 dX8_step_129 rfl ?_
                        refine x_get (pc := 130) (T := TX8) (N := 9) (ci := 8) (v := .int x_122) E hw144 inX8 0 3 q_541 rfl rfl (by decide) rfl rfl dX8_step_130 ?_
                        refine lv_iconst (pc := 133) (v := 1) E.1 E.2.1 dX8_step_133 (by decide +kernel) ?_
                        refine lv_iadd (pc := 134) E.1 E.2.1 dX8_step_134 ?_
                        refine lv_topi (fun v_158 ev_158 => ?_)
                        have hv_158 : v_158.toInt = x_122.toInt + 1 := by rw [ev_158]; exact addE rfl (by decide +kernel) (by omega)
                        refine x_put (pc := 135) (T := TX8) (N := 9) (ci := 8) (ws' := (WZ_Tape cI cJ ad mr (upd (upd mi 4 v_158) 7 x_6) mf mg)) E hw144 inX8 tyX8_ok nmX8 0 3 q_541 rfl rfl (by decide) rfl rfl rfl rfl (Nat.le_of_ble_eq_true rfl) rfl dX8_step_135 (fun H locs hw159 => ?_)
                        refine lv_goto (pc := 138) (tgt := 102) E.1 E.2.1 dX8_step_138 (by decide) ?_
                        exact ih_123 v_158 _ _ _ ⟨(by show 0 ≤ v_158.toInt; omega), (by show v_158.toInt ≤ (mi 2).toInt; omega), (by show x_6.toInt ≤ v_158.toInt; omega), (rnI_step hi_122_3 ev_140 (by omega) (by omega) (ltr_t (by omega)) (m := v_158.toInt) (by omega))⟩ (by omega) hw159 (lv_sub hl125 [0] rfl)
                      · skip
                        have ha_150 : v_140.toInt ≤ 64 := ha_150
                        refine lv_if_eq (pc := 125) (tgt := 141) E.1 E.2.1 dX8_step_125 (by decide) (fun _ => ?_) (fun c_160 => absurd (meqE (a := 0) (b := 0) (by decide +kernel) (by decide +kernel) (by omega)) c_160)
                        have hle_161 : x_122.toInt = rnI ltrB (mf 1) (mi 2).toInt x_6.toInt := rnI_stop hi_122_3 ev_140 (by omega) (by omega) (ltr_f (by omega))
                        refine lv_aload_n (pc := 141) E.1 E.2.1 dX8_step_141 rfl (lv_at hl125 0 rfl) ?_
                        refine cq_i (pc := 142) (ws' := (fun (u : Unit) => (WZ_Tape cI cJ ad mr (upd (upd mi 4 x_122) 7 x_6) mf mg))) hw144 [0, 1] [] [0, 1] rfl rfl (by decide) (by decide) (fun _ => rfl) (by decide) (rn_V (As := []) (rest := []) E hw144 (t_wordNumberW l D cI cJ _ (ixf [0, 1, 2, 3, 4, 5, 6, 7, 8, 9] mr) (ixf [0, 1, 2, 3, 4, 5, 6, 7, 8, 9] (upd (upd mi 4 x_122) 7 x_6)) (ixf [0, 1, 2, 3, 4, 5, 6, 7, 8, 9] mf) (ixf [0, 1, 2, 3, 4, 5, 6, 7, 8, 9] mg) ad av tf (by show 0 ≤ (mi 2).toInt ∧ (mi 2).toInt ≤ 400; omega) (by show 0 ≤ x_122.toInt; omega) (by show x_122.toInt ≤ (mi 2).toInt; omega) (by show 0 ≤ (mi 3).toInt ∧ (mi 3).toInt ≤ 6; omega) (by show 0 ≤ x_6.toInt; omega) (by show x_6.toInt ≤ x_122.toInt; omega)) (gdV q_729 q_731 q_2 q_160 q_732) hdV_X8_wordNumber ⟨rfl, rfl⟩ ⟨(Nat.le_of_ble_eq_true rfl), (Nat.le_of_ble_eq_true rfl)⟩ ⟨(Nat.le_of_ble_eq_true rfl), (Nat.le_of_ble_eq_true rfl)⟩ xT8_b (xT8_at hX hw144.2.2.1 (va_free hw144.2.1 hw144.2.2.1 hw144.2.2.2 [0, 1] rfl)) 0 8 rfl rfl rfl [0, 1] rfl (by decide) rfl hl125.1 rfl (Nat.le_of_ble_eq_true rfl) dX8_step_142) (fun r_163 u_162 H1 locs hp hw164 => ?_)
                        generalize H1 = H at hw164 ⊢
                        have hw165 : WD D A s.heap (WZ_Tape cI cJ ad mr (upd (upd mi 4 x_122) 7 x_6) mf mg) H locs := hw164
                        obtain ⟨hp_166, hp_167, hp_168⟩ := hp
                        have hp_166 : (-1) ≤ r_163.toInt := hp_166
                        have hp_167 : r_163.toInt ≤ 75 := hp_167
                        have hp_168 : (r_163 : Int32).toInt = scnI (mf 1) x_6.toInt x_122.toInt (sTx (ti (mi 3))) 0 x_6.toInt true := hp_168
                        refine lv_istore_n (pc := 145) (lv' := [(1, .int r_163), (0, .ref (mr 0))]) E.1 E.2.1 dX8_step_145 rfl hl125 (by decide) rfl (fun ls hl169 => ?_)
                        refine lv_aload_n (pc := 146) E.1 E.2.1 dX8_step_146 rfl (lv_at hl169 1 rfl) ?_
                        refine lv_iload_n (pc := 147) E.1 E.2.1 dX8_step_147 rfl (lv_at hl169 0 rfl) ?_
                        refine lv_iconst (pc := 148) (v := (-1)) E.1 E.2.1 dX8_step_148 (by decide +kernel) ?_
                        refine lv_icmp_ne (pc := 149) (tgt := 156) E.1 E.2.1 dX8_step_149 (by decide) (fun c_170 => ?_) (fun c_170 => ?_)
                        · skip
                          have hc_170 := neE (a := r_163.toInt) (b := (-1)) rfl (by decide +kernel) c_170
                          refine lv_sipush (pc := 156) (v := 256) E.1 E.2.1 dX8_step_156 (by decide +kernel) ?_
                          refine lv_iload_n (pc := 159) E.1 E.2.1 dX8_step_159 rfl (lv_at hl169 0 rfl) ?_
                          refine lv_iadd (pc := 160) E.1 E.2.1 dX8_step_160 ?_
                          refine lv_topi (fun v_171 ev_171 => ?_)
                          have hv_171 : v_171.toInt = 256 + r_163.toInt := by rw [ev_171]; exact addE (by decide +kernel) rfl (by omega)
                          refine x_put (pc := 161) (T := TX8) (N := 9) (ci := 8) (ws' := (WZ_Tape cI cJ ad mr (upd (upd (upd mi 4 x_122) 5 v_171) 7 x_6) mf mg)) E hw165 inX8 tyX8_ok nmX8 0 4 q_546 rfl rfl (by decide) rfl rfl rfl rfl (Nat.le_of_ble_eq_true rfl) rfl dX8_step_161 (fun H locs hw172 => ?_)
                          refine lv_goto (pc := 164) (tgt := 234) E.1 E.2.1 dX8_step_164 (by decide) ?_
                          exact em_v (w1 := (fun (u : Int32 × Int32 × Int32 × Int32) => (WZ_Tape cI cJ ad mr (upd (upd (upd (upd mi 4 u.1) 7 u.2.1) 5 u.2.2.1) 6 u.2.2.2) mf mg))) E hr hlk (x_122, x_6, v_171, (mi 6)) hw172 ⟨(by show 0 ≤ x_122.toInt; omega), (by show x_122.toInt ≤ (mi 2).toInt; omega), (show (((mi 8).toInt ≠ 0 → x_6.toInt = (mi 7).toInt ∧ x_122.toInt = (mi 4).toInt ∧ v_171.toInt = (mi 5).toInt ∧ (mi 6).toInt = (mi 6).toInt) ∧ ((mi 8).toInt = 0 → TKS (ti (mi 3)) (mf 1) (mi 2).toInt (mi 4).toInt x_6.toInt x_122.toInt v_171.toInt (mi 6).toInt)) from ⟨fun h => absurd (by omega) h, fun _ => (TKS_let hsk_21 ev_24 (by omega) (by omega) (ltr_t (by omega)) rfl hle_161 hp_168 (by omega) (Or.inr ⟨by omega, by omega⟩))⟩)⟩ (Nat.le_of_ble_eq_true rfl) (Nat.le_of_ble_eq_true rfl) dX8_step_234
                        · skip
                          have hc_170 := eqE (a := r_163.toInt) (b := (-1)) rfl (by decide +kernel) c_170
                          refine lv_iconst (pc := 152) (v := 2) E.1 E.2.1 dX8_step_152 (by decide +kernel) ?_
                          refine lv_goto (pc := 153) (tgt := 161) E.1 E.2.1 dX8_step_153 (by decide) ?_
                          refine x_put (pc := 161) (T := TX8) (N := 9) (ci := 8) (ws' := (WZ_Tape cI cJ ad mr (upd (upd (upd mi 4 x_122) 5 2) 7 x_6) mf mg)) E hw165 inX8 tyX8_ok nmX8 0 4 q_546 rfl rfl (by decide) rfl rfl rfl rfl (Nat.le_of_ble_eq_true rfl) rfl dX8_step_161 (fun H locs hw173 => ?_)
                          refine lv_goto (pc := 164) (tgt := 234) E.1 E.2.1 dX8_step_164 (by decide) ?_
                          exact em_v (w1 := (fun (u : Int32 × Int32 × Int32 × Int32) => (WZ_Tape cI cJ ad mr (upd (upd (upd (upd mi 4 u.1) 7 u.2.1) 5 u.2.2.1) 6 u.2.2.2) mf mg))) E hr hlk (x_122, x_6, 2, (mi 6)) hw173 ⟨(by show 0 ≤ x_122.toInt; have k_0 : (2 : Int32).toInt = 2 := (by decide +kernel); omega), (by show x_122.toInt ≤ (mi 2).toInt; have k_0 : (2 : Int32).toInt = 2 := (by decide +kernel); omega), (show (((mi 8).toInt ≠ 0 → x_6.toInt = (mi 7).toInt ∧ x_122.toInt = (mi 4).toInt ∧ (2 : Int32).toInt = (mi 5).toInt ∧ (mi 6).toInt = (mi 6).toInt) ∧ ((mi 8).toInt = 0 → TKS (ti (mi 3)) (mf 1) (mi 2).toInt (mi 4).toInt x_6.toInt x_122.toInt (2 : Int32).toInt (mi 6).toInt)) from ⟨fun h => absurd (by omega) h, fun _ => (TKS_let hsk_21 ev_24 (by omega) (by omega) (ltr_t (by omega)) rfl hle_161 hp_168 (by omega) (Or.inl ⟨by omega, by decide +kernel⟩))⟩)⟩ (Nat.le_of_ble_eq_true rfl) (Nat.le_of_ble_eq_true rfl) dX8_step_234
                      · skip
                        have ha_151 : 91 ≤ v_140.toInt := ha_151
                        have ha_152 : v_140.toInt ≤ 96 := ha_152
                        refine lv_if_eq (pc := 125) (tgt := 141) E.1 E.2.1 dX8_step_125 (by decide) (fun _ => ?_) (fun c_174 => absurd (meqE (a := 0) (b := 0) (by decide +kernel) (by decide +kernel) (by omega)) c_174)
                        have hle_175 : x_122.toInt = rnI ltrB (mf 1) (mi 2).toInt x_6.toInt := rnI_stop hi_122_3 ev_140 (by omega) (by omega) (ltr_f (by omega))
                        refine lv_aload_n (pc := 141) E.1 E.2.1 dX8_step_141 rfl (lv_at hl125 0 rfl) ?_
                        refine cq_i (pc := 142) (ws' := (fun (u : Unit) => (WZ_Tape cI cJ ad mr (upd (upd mi 4 x_122) 7 x_6) mf mg))) hw144 [0, 1] [] [0, 1] rfl rfl (by decide) (by decide) (fun _ => rfl) (by decide) (rn_V (As := []) (rest := []) E hw144 (t_wordNumberW l D cI cJ _ (ixf [0, 1, 2, 3, 4, 5, 6, 7, 8, 9] mr) (ixf [0, 1, 2, 3, 4, 5, 6, 7, 8, 9] (upd (upd mi 4 x_122) 7 x_6)) (ixf [0, 1, 2, 3, 4, 5, 6, 7, 8, 9] mf) (ixf [0, 1, 2, 3, 4, 5, 6, 7, 8, 9] mg) ad av tf (by show 0 ≤ (mi 2).toInt ∧ (mi 2).toInt ≤ 400; omega) (by show 0 ≤ x_122.toInt; omega) (by show x_122.toInt ≤ (mi 2).toInt; omega) (by show 0 ≤ (mi 3).toInt ∧ (mi 3).toInt ≤ 6; omega) (by show 0 ≤ x_6.toInt; omega) (by show x_6.toInt ≤ x_122.toInt; omega)) (gdV q_729 q_731 q_2 q_160 q_732) hdV_X8_wordNumber ⟨rfl, rfl⟩ ⟨(Nat.le_of_ble_eq_true rfl), (Nat.le_of_ble_eq_true rfl)⟩ ⟨(Nat.le_of_ble_eq_true rfl), (Nat.le_of_ble_eq_true rfl)⟩ xT8_b (xT8_at hX hw144.2.2.1 (va_free hw144.2.1 hw144.2.2.1 hw144.2.2.2 [0, 1] rfl)) 0 8 rfl rfl rfl [0, 1] rfl (by decide) rfl hl125.1 rfl (Nat.le_of_ble_eq_true rfl) dX8_step_142) (fun r_177 u_176 H1 locs hp hw178 => ?_)
                        generalize H1 = H at hw178 ⊢
                        have hw179 : WD D A s.heap (WZ_Tape cI cJ ad mr (upd (upd mi 4 x_122) 7 x_6) mf mg) H locs := hw178
                        obtain ⟨hp_180, hp_181, hp_182⟩ := hp
                        have hp_180 : (-1) ≤ r_177.toInt := hp_180
                        have hp_181 : r_177.toInt ≤ 75 := hp_181
                        have hp_182 : (r_177 : Int32).toInt = scnI (mf 1) x_6.toInt x_122.toInt (sTx (ti (mi 3))) 0 x_6.toInt true := hp_182
                        refine lv_istore_n (pc := 145) (lv' := [(1, .int r_177), (0, .ref (mr 0))]) E.1 E.2.1 dX8_step_145 rfl hl125 (by decide) rfl (fun ls hl183 => ?_)
                        refine lv_aload_n (pc := 146) E.1 E.2.1 dX8_step_146 rfl (lv_at hl183 1 rfl) ?_
                        refine lv_iload_n (pc := 147) E.1 E.2.1 dX8_step_147 rfl (lv_at hl183 0 rfl) ?_
                        refine lv_iconst (pc := 148) (v := (-1)) E.1 E.2.1 dX8_step_148 (by decide +kernel) ?_
                        refine lv_icmp_ne (pc := 149) (tgt := 156) E.1 E.2.1 dX8_step_149 (by decide) (fun c_184 => ?_) (fun c_184 => ?_)
                        · skip
                          have hc_184 := neE (a := r_177.toInt) (b := (-1)) rfl (by decide +kernel) c_184
                          refine lv_sipush (pc := 156) (v := 256) E.1 E.2.1 dX8_step_156 (by decide +kernel) ?_
                          refine lv_iload_n (pc := 159) E.1 E.2.1 dX8_step_159 rfl (lv_at hl183 0 rfl) ?_
                          refine lv_iadd (pc := 160) E.1 E.2.1 dX8_step_160 ?_
                          refine lv_topi (fun v_185 ev_185 => ?_)
                          have hv_185 : v_185.toInt = 256 + r_177.toInt := by rw [ev_185]; exact addE (by decide +kernel) rfl (by omega)
                          refine x_put (pc := 161) (T := TX8) (N := 9) (ci := 8) (ws' := (WZ_Tape cI cJ ad mr (upd (upd (upd mi 4 x_122) 5 v_185) 7 x_6) mf mg)) E hw179 inX8 tyX8_ok nmX8 0 4 q_546 rfl rfl (by decide) rfl rfl rfl rfl (Nat.le_of_ble_eq_true rfl) rfl dX8_step_161 (fun H locs hw186 => ?_)
                          refine lv_goto (pc := 164) (tgt := 234) E.1 E.2.1 dX8_step_164 (by decide) ?_
                          exact em_v (w1 := (fun (u : Int32 × Int32 × Int32 × Int32) => (WZ_Tape cI cJ ad mr (upd (upd (upd (upd mi 4 u.1) 7 u.2.1) 5 u.2.2.1) 6 u.2.2.2) mf mg))) E hr hlk (x_122, x_6, v_185, (mi 6)) hw186 ⟨(by show 0 ≤ x_122.toInt; omega), (by show x_122.toInt ≤ (mi 2).toInt; omega), (show (((mi 8).toInt ≠ 0 → x_6.toInt = (mi 7).toInt ∧ x_122.toInt = (mi 4).toInt ∧ v_185.toInt = (mi 5).toInt ∧ (mi 6).toInt = (mi 6).toInt) ∧ ((mi 8).toInt = 0 → TKS (ti (mi 3)) (mf 1) (mi 2).toInt (mi 4).toInt x_6.toInt x_122.toInt v_185.toInt (mi 6).toInt)) from ⟨fun h => absurd (by omega) h, fun _ => (TKS_let hsk_21 ev_24 (by omega) (by omega) (ltr_t (by omega)) rfl hle_175 hp_182 (by omega) (Or.inr ⟨by omega, by omega⟩))⟩)⟩ (Nat.le_of_ble_eq_true rfl) (Nat.le_of_ble_eq_true rfl) dX8_step_234
                        · skip
                          have hc_184 := eqE (a := r_177.toInt) (b := (-1)) rfl (by decide +kernel) c_184
                          refine lv_iconst (pc := 152) (v := 2) E.1 E.2.1 dX8_step_152 (by decide +kernel) ?_
                          refine lv_goto (pc := 153) (tgt := 161) E.1 E.2.1 dX8_step_153 (by decide) ?_
                          refine x_put (pc := 161) (T := TX8) (N := 9) (ci := 8) (ws' := (WZ_Tape cI cJ ad mr (upd (upd (upd mi 4 x_122) 5 2) 7 x_6) mf mg)) E hw179 inX8 tyX8_ok nmX8 0 4 q_546 rfl rfl (by decide) rfl rfl rfl rfl (Nat.le_of_ble_eq_true rfl) rfl dX8_step_161 (fun H locs hw187 => ?_)
                          refine lv_goto (pc := 164) (tgt := 234) E.1 E.2.1 dX8_step_164 (by decide) ?_
                          exact em_v (w1 := (fun (u : Int32 × Int32 × Int32 × Int32) => (WZ_Tape cI cJ ad mr (upd (upd (upd (upd mi 4 u.1) 7 u.2.1) 5 u.2.2.1) 6 u.2.2.2) mf mg))) E hr hlk (x_122, x_6, 2, (mi 6)) hw187 ⟨(by show 0 ≤ x_122.toInt; have k_0 : (2 : Int32).toInt = 2 := (by decide +kernel); omega), (by show x_122.toInt ≤ (mi 2).toInt; have k_0 : (2 : Int32).toInt = 2 := (by decide +kernel); omega), (show (((mi 8).toInt ≠ 0 → x_6.toInt = (mi 7).toInt ∧ x_122.toInt = (mi 4).toInt ∧ (2 : Int32).toInt = (mi 5).toInt ∧ (mi 6).toInt = (mi 6).toInt) ∧ ((mi 8).toInt = 0 → TKS (ti (mi 3)) (mf 1) (mi 2).toInt (mi 4).toInt x_6.toInt x_122.toInt (2 : Int32).toInt (mi 6).toInt)) from ⟨fun h => absurd (by omega) h, fun _ => (TKS_let hsk_21 ev_24 (by omega) (by omega) (ltr_t (by omega)) rfl hle_175 hp_182 (by omega) (Or.inl ⟨by omega, by decide +kernel⟩))⟩)⟩ (Nat.le_of_ble_eq_true rfl) (Nat.le_of_ble_eq_true rfl) dX8_step_234
                      · skip
                        have ha_153 : 123 ≤ v_140.toInt := ha_153
                        refine lv_if_eq (pc := 125) (tgt := 141) E.1 E.2.1 dX8_step_125 (by decide) (fun _ => ?_) (fun c_188 => absurd (meqE (a := 0) (b := 0) (by decide +kernel) (by decide +kernel) (by omega)) c_188)
                        have hle_189 : x_122.toInt = rnI ltrB (mf 1) (mi 2).toInt x_6.toInt := rnI_stop hi_122_3 ev_140 (by omega) (by omega) (ltr_f (by omega))
                        refine lv_aload_n (pc := 141) E.1 E.2.1 dX8_step_141 rfl (lv_at hl125 0 rfl) ?_
                        refine cq_i (pc := 142) (ws' := (fun (u : Unit) => (WZ_Tape cI cJ ad mr (upd (upd mi 4 x_122) 7 x_6) mf mg))) hw144 [0, 1] [] [0, 1] rfl rfl (by decide) (by decide) (fun _ => rfl) (by decide) (rn_V (As := []) (rest := []) E hw144 (t_wordNumberW l D cI cJ _ (ixf [0, 1, 2, 3, 4, 5, 6, 7, 8, 9] mr) (ixf [0, 1, 2, 3, 4, 5, 6, 7, 8, 9] (upd (upd mi 4 x_122) 7 x_6)) (ixf [0, 1, 2, 3, 4, 5, 6, 7, 8, 9] mf) (ixf [0, 1, 2, 3, 4, 5, 6, 7, 8, 9] mg) ad av tf (by show 0 ≤ (mi 2).toInt ∧ (mi 2).toInt ≤ 400; omega) (by show 0 ≤ x_122.toInt; omega) (by show x_122.toInt ≤ (mi 2).toInt; omega) (by show 0 ≤ (mi 3).toInt ∧ (mi 3).toInt ≤ 6; omega) (by show 0 ≤ x_6.toInt; omega) (by show x_6.toInt ≤ x_122.toInt; omega)) (gdV q_729 q_731 q_2 q_160 q_732) hdV_X8_wordNumber ⟨rfl, rfl⟩ ⟨(Nat.le_of_ble_eq_true rfl), (Nat.le_of_ble_eq_true rfl)⟩ ⟨(Nat.le_of_ble_eq_true rfl), (Nat.le_of_ble_eq_true rfl)⟩ xT8_b (xT8_at hX hw144.2.2.1 (va_free hw144.2.1 hw144.2.2.1 hw144.2.2.2 [0, 1] rfl)) 0 8 rfl rfl rfl [0, 1] rfl (by decide) rfl hl125.1 rfl (Nat.le_of_ble_eq_true rfl) dX8_step_142) (fun r_191 u_190 H1 locs hp hw192 => ?_)
                        generalize H1 = H at hw192 ⊢
                        have hw193 : WD D A s.heap (WZ_Tape cI cJ ad mr (upd (upd mi 4 x_122) 7 x_6) mf mg) H locs := hw192
                        obtain ⟨hp_194, hp_195, hp_196⟩ := hp
                        have hp_194 : (-1) ≤ r_191.toInt := hp_194
                        have hp_195 : r_191.toInt ≤ 75 := hp_195
                        have hp_196 : (r_191 : Int32).toInt = scnI (mf 1) x_6.toInt x_122.toInt (sTx (ti (mi 3))) 0 x_6.toInt true := hp_196
                        refine lv_istore_n (pc := 145) (lv' := [(1, .int r_191), (0, .ref (mr 0))]) E.1 E.2.1 dX8_step_145 rfl hl125 (by decide) rfl (fun ls hl197 => ?_)
                        refine lv_aload_n (pc := 146) E.1 E.2.1 dX8_step_146 rfl (lv_at hl197 1 rfl) ?_
                        refine lv_iload_n (pc := 147) E.1 E.2.1 dX8_step_147 rfl (lv_at hl197 0 rfl) ?_
                        refine lv_iconst (pc := 148) (v := (-1)) E.1 E.2.1 dX8_step_148 (by decide +kernel) ?_
                        refine lv_icmp_ne (pc := 149) (tgt := 156) E.1 E.2.1 dX8_step_149 (by decide) (fun c_198 => ?_) (fun c_198 => ?_)
                        · skip
                          have hc_198 := neE (a := r_191.toInt) (b := (-1)) rfl (by decide +kernel) c_198
                          refine lv_sipush (pc := 156) (v := 256) E.1 E.2.1 dX8_step_156 (by decide +kernel) ?_
                          refine lv_iload_n (pc := 159) E.1 E.2.1 dX8_step_159 rfl (lv_at hl197 0 rfl) ?_
                          refine lv_iadd (pc := 160) E.1 E.2.1 dX8_step_160 ?_
                          refine lv_topi (fun v_199 ev_199 => ?_)
                          have hv_199 : v_199.toInt = 256 + r_191.toInt := by rw [ev_199]; exact addE (by decide +kernel) rfl (by omega)
                          refine x_put (pc := 161) (T := TX8) (N := 9) (ci := 8) (ws' := (WZ_Tape cI cJ ad mr (upd (upd (upd mi 4 x_122) 5 v_199) 7 x_6) mf mg)) E hw193 inX8 tyX8_ok nmX8 0 4 q_546 rfl rfl (by decide) rfl rfl rfl rfl (Nat.le_of_ble_eq_true rfl) rfl dX8_step_161 (fun H locs hw200 => ?_)
                          refine lv_goto (pc := 164) (tgt := 234) E.1 E.2.1 dX8_step_164 (by decide) ?_
                          exact em_v (w1 := (fun (u : Int32 × Int32 × Int32 × Int32) => (WZ_Tape cI cJ ad mr (upd (upd (upd (upd mi 4 u.1) 7 u.2.1) 5 u.2.2.1) 6 u.2.2.2) mf mg))) E hr hlk (x_122, x_6, v_199, (mi 6)) hw200 ⟨(by show 0 ≤ x_122.toInt; omega), (by show x_122.toInt ≤ (mi 2).toInt; omega), (show (((mi 8).toInt ≠ 0 → x_6.toInt = (mi 7).toInt ∧ x_122.toInt = (mi 4).toInt ∧ v_199.toInt = (mi 5).toInt ∧ (mi 6).toInt = (mi 6).toInt) ∧ ((mi 8).toInt = 0 → TKS (ti (mi 3)) (mf 1) (mi 2).toInt (mi 4).toInt x_6.toInt x_122.toInt v_199.toInt (mi 6).toInt)) from ⟨fun h => absurd (by omega) h, fun _ => (TKS_let hsk_21 ev_24 (by omega) (by omega) (ltr_t (by omega)) rfl hle_189 hp_196 (by omega) (Or.inr ⟨by omega, by omega⟩))⟩)⟩ (Nat.le_of_ble_eq_true rfl) (Nat.le_of_ble_eq_true rfl) dX8_step_234
                        · skip
                          have hc_198 := eqE (a := r_191.toInt) (b := (-1)) rfl (by decide +kernel) c_198
                          refine lv_iconst (pc := 152) (v := 2) E.1 E.2.1 dX8_step_152 (by decide +kernel) ?_
                          refine lv_goto (pc := 153) (tgt := 161) E.1 E.2.1 dX8_step_153 (by decide) ?_
                          refine x_put (pc := 161) (T := TX8) (N := 9) (ci := 8) (ws' := (WZ_Tape cI cJ ad mr (upd (upd (upd mi 4 x_122) 5 2) 7 x_6) mf mg)) E hw193 inX8 tyX8_ok nmX8 0 4 q_546 rfl rfl (by decide) rfl rfl rfl rfl (Nat.le_of_ble_eq_true rfl) rfl dX8_step_161 (fun H locs hw201 => ?_)
                          refine lv_goto (pc := 164) (tgt := 234) E.1 E.2.1 dX8_step_164 (by decide) ?_
                          exact em_v (w1 := (fun (u : Int32 × Int32 × Int32 × Int32) => (WZ_Tape cI cJ ad mr (upd (upd (upd (upd mi 4 u.1) 7 u.2.1) 5 u.2.2.1) 6 u.2.2.2) mf mg))) E hr hlk (x_122, x_6, 2, (mi 6)) hw201 ⟨(by show 0 ≤ x_122.toInt; have k_0 : (2 : Int32).toInt = 2 := (by decide +kernel); omega), (by show x_122.toInt ≤ (mi 2).toInt; have k_0 : (2 : Int32).toInt = 2 := (by decide +kernel); omega), (show (((mi 8).toInt ≠ 0 → x_6.toInt = (mi 7).toInt ∧ x_122.toInt = (mi 4).toInt ∧ (2 : Int32).toInt = (mi 5).toInt ∧ (mi 6).toInt = (mi 6).toInt) ∧ ((mi 8).toInt = 0 → TKS (ti (mi 3)) (mf 1) (mi 2).toInt (mi 4).toInt x_6.toInt x_122.toInt (2 : Int32).toInt (mi 6).toInt)) from ⟨fun h => absurd (by omega) h, fun _ => (TKS_let hsk_21 ev_24 (by omega) (by omega) (ltr_t (by omega)) rfl hle_189 hp_196 (by omega) (Or.inl ⟨by omega, by decide +kernel⟩))⟩)⟩ (Nat.le_of_ble_eq_true rfl) (Nat.le_of_ble_eq_true rfl) dX8_step_234
                exact loop_121 (Int.toNat ((mi 2).toInt - x_6.toInt) + 1) x_6 _ _ _ ⟨(by show 0 ≤ x_6.toInt; omega), (by show x_6.toInt ≤ (mi 2).toInt; omega), (by show x_6.toInt ≤ x_6.toInt; omega), rfl⟩ (by omega) hw28 (lv_sub hl9 [0] rfl)
              · skip
                have ha_34 : v_24.toInt ≤ 64 := ha_34
                refine lv_if_eq (pc := 99) (tgt := 167) E.1 E.2.1 dX8_step_99 (by decide) (fun _ => ?_) (fun c_202 => absurd (meqE (a := 0) (b := 0) (by decide +kernel) (by decide +kernel) (by omega)) c_202)
                refine lv_aload_n (pc := 167) E.1 E.2.1 dX8_step_167 rfl (lv_at hl9 0 rfl) ?_
                refine x_get (pc := 168) (T := TX8) (N := 9) (ci := 8) (v := .ref (mr 1)) E hw28 inX8 0 0 q_537 rfl rfl (by decide) rfl rfl dX8_step_168 ?_
                refine lv_aload_n (pc := 171) E.1 E.2.1 dX8_step_171 rfl (lv_at hl9 0 rfl) ?_
                refine x_get (pc := 172) (T := TX8) (N := 9) (ci := 8) (v := .int x_6) E hw28 inX8 0 3 q_541 rfl rfl (by decide) rfl rfl dX8_step_172 ?_
                refine x_iald (pc := 175) (f := (mf 1)) E hw28 1 rfl (inbE (a := x_6.toInt) rfl (by omega)) dX8_step_175 ?_
                refine lv_topi (fun v_203 ev_203 => ?_)
                have hbv_203 := allR_at (n := 400) (lo := 0) (hi := 255) a_signs ev_203 (by show 0 ≤ x_6.toInt ∧ _; omega)
                have hsv_203 : v_203.toInt = v_24.toInt := by rw [ev_203, ev_24]
                refine cq_i (pc := 176) (ws' := (fun (u : Unit) => (WZ_Tape cI cJ ad mr (upd (upd mi 4 x_6) 7 x_6) mf mg))) hw28 [] [0, 1] [0, 1] rfl rfl (by decide) (by decide) (fun _ => rfl) (by decide) (rn_S (As := [.int v_203]) (rest := []) E hw28 (t_isDigitW l D cI cJ _ (ixf [] mr) (ixf [] (upd (upd mi 4 x_6) 7 x_6)) (ixf [] mf) (ixf [] mg) v_203) (gdS q_781 q_782 q_160 q_783) hdV_X8_isDigit ⟨rfl, rfl⟩ ⟨(Nat.le_of_ble_eq_true rfl), (Nat.le_of_ble_eq_true rfl)⟩ ⟨(Nat.le_of_ble_eq_true rfl), (Nat.le_of_ble_eq_true rfl)⟩ xT_b xT_at [] rfl (by decide) rfl hl9.1 rfl (Nat.le_of_ble_eq_true rfl) dX8_step_176) (fun r_205 u_204 H1 locs hp hw206 => ?_)
                generalize H1 = H at hw206 ⊢
                have hw207 : WD D A s.heap (WZ_Tape cI cJ ad mr (upd (upd mi 4 x_6) 7 x_6) mf mg) H locs := hw206
                have hp_208 := hp
                rcases hp_208 with ⟨rfl, ha_209, ha_210⟩ | ⟨rfl, ha_211⟩ | ⟨rfl, ha_212⟩
                · skip
                  have ha_209 : 48 ≤ v_203.toInt := ha_209
                  have ha_210 : v_203.toInt ≤ 57 := ha_210
                  refine lv_if_eq (pc := 179) (tgt := 189) E.1 E.2.1 dX8_step_179 (by decide) (fun c_213 => absurd c_213 (mneE (a := 1) (b := 0) (by decide +kernel) (by decide +kernel) (by omega))) (fun _ => ?_)
                  refine lv_aload_n (pc := 182) E.1 E.2.1 dX8_step_182 rfl (lv_at hl9 0 rfl) ?_
                  refine cq_v (pc := 183) (ws' := (fun (u : Int32 × Int32 × Int32) => (WZ_Tape cI cJ ad mr (upd (upd (upd (upd mi 4 u.2.1) 5 u.2.2) 6 u.1) 7 x_6) mf mg))) hw207 [0, 1] [] [0, 1] rfl rfl (by decide) (by decide) (fun _ => rfl) (by decide) (rn_V (As := []) (rest := []) E hw207 (t_readNumberW l D cI cJ _ (ixf [0, 1, 2, 3, 4, 5, 6, 7, 8, 9] mr) (ixf [0, 1, 2, 3, 4, 5, 6, 7, 8, 9] (upd (upd mi 4 x_6) 7 x_6)) (ixf [0, 1, 2, 3, 4, 5, 6, 7, 8, 9] mf) (ixf [0, 1, 2, 3, 4, 5, 6, 7, 8, 9] mg) ad (by show 0 ≤ (mi 2).toInt ∧ (mi 2).toInt ≤ 400; omega) (by show 0 ≤ x_6.toInt; omega) (by show x_6.toInt ≤ (mi 2).toInt; omega) (by show 0 ≤ x_6.toInt; omega) (by show x_6.toInt = x_6.toInt; omega) a_signs) (gdV q_784 q_786 q_3 q_160 q_787) hdV_X8_readNumber ⟨rfl, rfl⟩ ⟨(Nat.le_of_ble_eq_true rfl), (Nat.le_of_ble_eq_true rfl)⟩ ⟨(Nat.le_of_ble_eq_true rfl), (Nat.le_of_ble_eq_true rfl)⟩ xT_b xT_at 0 8 rfl rfl rfl [0, 1] rfl (by decide) rfl hl9.1 rfl (Nat.le_of_ble_eq_true rfl) dX8_step_183) (fun u_214 H1 locs hp hw216 => ?_)
                  obtain ⟨nvalue_217, nat_218, nkind_219⟩ := u_214
                  generalize H1 = H at hw216 ⊢
                  have hw220 : WD D A s.heap (WZ_Tape cI cJ ad mr (upd (upd (upd (upd mi 4 nat_218) 5 nkind_219) 6 nvalue_217) 7 x_6) mf mg) H locs := hw216
                  obtain ⟨hp_221, hp_222, hp_223, hp_224⟩ := hp
                  have hp_221 : 0 ≤ nat_218.toInt := hp_221
                  have hp_222 : nat_218.toInt ≤ (mi 2).toInt := hp_222
                  have hp_223 : x_6.toInt ≤ nat_218.toInt := hp_223
                  have hp_224 : RNF (mf 1) (mi 2).toInt x_6.toInt nat_218.toInt nkind_219.toInt nvalue_217.toInt := hp_224
                  refine lv_goto (pc := 186) (tgt := 234) E.1 E.2.1 dX8_step_186 (by decide) ?_
                  exact em_v (w1 := (fun (u : Int32 × Int32 × Int32 × Int32) => (WZ_Tape cI cJ ad mr (upd (upd (upd (upd mi 4 u.1) 7 u.2.1) 5 u.2.2.1) 6 u.2.2.2) mf mg))) E hr hlk (nat_218, x_6, nkind_219, nvalue_217) hw220 ⟨(by show 0 ≤ nat_218.toInt; omega), (by show nat_218.toInt ≤ (mi 2).toInt; omega), (show (((mi 8).toInt ≠ 0 → x_6.toInt = (mi 7).toInt ∧ nat_218.toInt = (mi 4).toInt ∧ nkind_219.toInt = (mi 5).toInt ∧ nvalue_217.toInt = (mi 6).toInt) ∧ ((mi 8).toInt = 0 → TKS (ti (mi 3)) (mf 1) (mi 2).toInt (mi 4).toInt x_6.toInt nat_218.toInt nkind_219.toInt nvalue_217.toInt)) from ⟨fun h => absurd (by omega) h, fun _ => (TKS_num hsk_21 ev_24 (by omega) (by omega) (dgt_t (by omega)) rfl hp_224)⟩)⟩ (Nat.le_of_ble_eq_true rfl) (Nat.le_of_ble_eq_true rfl) dX8_step_234
                · skip
                  have ha_211 : v_203.toInt ≤ 47 := ha_211
                  refine lv_if_eq (pc := 179) (tgt := 189) E.1 E.2.1 dX8_step_179 (by decide) (fun _ => ?_) (fun c_225 => absurd (meqE (a := 0) (b := 0) (by decide +kernel) (by decide +kernel) (by omega)) c_225)
                  refine lv_aload_n (pc := 189) E.1 E.2.1 dX8_step_189 rfl (lv_at hl9 0 rfl) ?_
                  refine x_lds (pc := 190) E hX.2.2.2.2.2.2.2 dX8_step_190 ?_
                  refine lv_aload_n (pc := 192) E.1 E.2.1 dX8_step_192 rfl (lv_at hl9 0 rfl) ?_
                  refine x_get (pc := 193) (T := TX8) (N := 9) (ci := 8) (v := .ref (mr 1)) E hw207 inX8 0 0 q_537 rfl rfl (by decide) rfl rfl dX8_step_193 ?_
                  refine lv_aload_n (pc := 196) E.1 E.2.1 dX8_step_196 rfl (lv_at hl9 0 rfl) ?_
                  refine x_get (pc := 197) (T := TX8) (N := 9) (ci := 8) (v := .int x_6) E hw207 inX8 0 3 q_541 rfl rfl (by decide) rfl rfl dX8_step_197 ?_
                  refine x_iald (pc := 200) (f := (mf 1)) E hw207 1 rfl (inbE (a := x_6.toInt) rfl (by omega)) dX8_step_200 ?_
                  refine lv_topi (fun v_226 ev_226 => ?_)
                  have hbv_226 := allR_at (n := 400) (lo := 0) (hi := 255) a_signs ev_226 (by show 0 ≤ x_6.toInt ∧ _; omega)
                  have hsv_226 : v_226.toInt = v_203.toInt := by rw [ev_226, ev_203]
                  refine lv_i2c (pc := 201) E.1 E.2.1 dX8_step_201 rfl ?_
                  refine lv_topi (fun v_227 ev_227 => ?_)
                  have hbv_227 : 0 ≤ v_227.toInt ∧ v_227.toInt ≤ 65535 := by rw [ev_227]; exact i2c_b _
                  have hi2v_227 : v_227.toInt = v_226.toInt := i2c_id (by omega) ev_227
                  refine cq_i (pc := 202) (ws' := (fun (u : Unit) => (WZ_Tape cI cJ ad mr (upd (upd mi 4 x_6) 7 x_6) mf mg))) hw207 [] [0, 1] [0, 1] rfl rfl (by decide) (by decide) (fun _ => rfl) (by decide) (rn_VS (As := [.int v_227]) (rest := [.ref (mr 0)]) E hw207 (t_indexOfW l D cI cJ _ (ixf [] mr) (ixf [] (upd (upd mi 4 x_6) 7 x_6)) (ixf [] mf) (ixf [] mg) v_227 ad av tf 6 (by decide) (by show 0 ≤ v_227.toInt ∧ v_227.toInt ≤ 255; omega)) (gdV q_789 q_790 q_791 q_163 q_792) hdV_J0_indexOf_0f7a4 ⟨rfl, rfl⟩ ⟨(Nat.le_of_ble_eq_true rfl), (Nat.le_of_ble_eq_true rfl)⟩ ⟨(Nat.le_of_ble_eq_true rfl), (Nat.le_of_ble_eq_true rfl)⟩ xS_b (xS_at hX.1 hw207.2.2.1 (va_free hw207.2.1 hw207.2.2.1 hw207.2.2.2 [] rfl)) hX.1.1 (by decide) rfl rfl [] rfl (by decide) rfl hl9.1 rfl (Nat.le_of_ble_eq_true rfl) dX8_step_202) (fun r_229 u_228 H1 locs hp hw230 => ?_)
                  generalize H1 = H at hw230 ⊢
                  have hw231 : WD D A s.heap (WZ_Tape cI cJ ad mr (upd (upd mi 4 x_6) 7 x_6) mf mg) H locs := hw230
                  have hp_232 := hp
                  have hp_232 : (0 ≤ (r_229 : Int32).toInt ↔ SIX 6 (v_227).toInt 0 (sLen.getD 6 0 : Int)) := hp_232
                  refine lv_if_lt (pc := 205) (tgt := 220) E.1 E.2.1 dX8_step_205 (by decide) (fun c_233 => ?_) (fun c_233 => ?_)
                  · skip
                    have hc_233 := ltE (a := r_229.toInt) (b := 0) rfl (by decide +kernel) c_233
                    refine lv_iconst (pc := 220) (v := 2) E.1 E.2.1 dX8_step_220 (by decide +kernel) ?_
                    refine x_put (pc := 221) (T := TX8) (N := 9) (ci := 8) (ws' := (WZ_Tape cI cJ ad mr (upd (upd (upd mi 4 x_6) 5 2) 7 x_6) mf mg)) E hw231 inX8 tyX8_ok nmX8 0 4 q_546 rfl rfl (by decide) rfl rfl rfl rfl (Nat.le_of_ble_eq_true rfl) rfl dX8_step_221 (fun H locs hw234 => ?_)
                    refine lv_aload_n (pc := 224) E.1 E.2.1 dX8_step_224 rfl (lv_at hl9 0 rfl) ?_
                    refine lv_dup (pc := 225) E.1 E.2.1 dX8_step_225 rfl ?_
                    refine x_get (pc := 226) (T := TX8) (N := 9) (ci := 8) (v := .int x_6) E hw234 inX8 0 3 q_541 rfl rfl (by decide) rfl rfl dX8_step_226 ?_
                    refine lv_iconst (pc := 229) (v := 1) E.1 E.2.1 dX8_step_229 (by decide +kernel) ?_
                    refine lv_iadd (pc := 230) E.1 E.2.1 dX8_step_230 ?_
                    refine lv_topi (fun v_235 ev_235 => ?_)
                    have hv_235 : v_235.toInt = x_6.toInt + 1 := by rw [ev_235]; exact addE rfl (by decide +kernel) (by omega)
                    refine x_put (pc := 231) (T := TX8) (N := 9) (ci := 8) (ws' := (WZ_Tape cI cJ ad mr (upd (upd (upd mi 4 v_235) 5 2) 7 x_6) mf mg)) E hw234 inX8 tyX8_ok nmX8 0 3 q_541 rfl rfl (by decide) rfl rfl rfl rfl (Nat.le_of_ble_eq_true rfl) rfl dX8_step_231 (fun H locs hw236 => ?_)
                    exact em_v (w1 := (fun (u : Int32 × Int32 × Int32 × Int32) => (WZ_Tape cI cJ ad mr (upd (upd (upd (upd mi 4 u.1) 7 u.2.1) 5 u.2.2.1) 6 u.2.2.2) mf mg))) E hr hlk (v_235, x_6, 2, (mi 6)) hw236 ⟨(by show 0 ≤ v_235.toInt; have k_0 : (2 : Int32).toInt = 2 := (by decide +kernel); omega), (by show v_235.toInt ≤ (mi 2).toInt; have k_0 : (2 : Int32).toInt = 2 := (by decide +kernel); omega), (show (((mi 8).toInt ≠ 0 → x_6.toInt = (mi 7).toInt ∧ v_235.toInt = (mi 4).toInt ∧ (2 : Int32).toInt = (mi 5).toInt ∧ (mi 6).toInt = (mi 6).toInt) ∧ ((mi 8).toInt = 0 → TKS (ti (mi 3)) (mf 1) (mi 2).toInt (mi 4).toInt x_6.toInt v_235.toInt (2 : Int32).toInt (mi 6).toInt)) from ⟨fun h => absurd (by omega) h, fun _ => (TKS_sgn hsk_21 ev_24 (by omega) (by omega) (ltr_f (by omega)) (dgt_f (by omega)) rfl (by omega) (Or.inr ⟨Bool.eq_false_iff.mpr (fun z => absurd (hp_232.mpr (by rw [(show v_227.toInt = v_24.toInt from by omega)]; exact (six_6 (n := (sLen.getD 6 0 : Int)) (by decide +kernel)).mpr z)) (by omega)), by decide +kernel⟩))⟩)⟩ (Nat.le_of_ble_eq_true rfl) (Nat.le_of_ble_eq_true rfl) dX8_step_234
                  · skip
                    have hc_233 := nltE (a := r_229.toInt) (b := 0) rfl (by decide +kernel) c_233
                    refine lv_aload_n (pc := 208) E.1 E.2.1 dX8_step_208 rfl (lv_at hl9 0 rfl) ?_
                    refine x_get (pc := 209) (T := TX8) (N := 9) (ci := 8) (v := .ref (mr 1)) E hw231 inX8 0 0 q_537 rfl rfl (by decide) rfl rfl dX8_step_209 ?_
                    refine lv_aload_n (pc := 212) E.1 E.2.1 dX8_step_212 rfl (lv_at hl9 0 rfl) ?_
                    refine x_get (pc := 213) (T := TX8) (N := 9) (ci := 8) (v := .int x_6) E hw231 inX8 0 3 q_541 rfl rfl (by decide) rfl rfl dX8_step_213 ?_
                    refine x_iald (pc := 216) (f := (mf 1)) E hw231 1 rfl (inbE (a := x_6.toInt) rfl (by omega)) dX8_step_216 ?_
                    refine lv_topi (fun v_237 ev_237 => ?_)
                    have hbv_237 := allR_at (n := 400) (lo := 0) (hi := 255) a_signs ev_237 (by show 0 ≤ x_6.toInt ∧ _; omega)
                    have hsv_237 : v_237.toInt = v_226.toInt := by rw [ev_237, ev_226]
                    refine lv_goto (pc := 217) (tgt := 221) E.1 E.2.1 dX8_step_217 (by decide) ?_
                    refine x_put (pc := 221) (T := TX8) (N := 9) (ci := 8) (ws' := (WZ_Tape cI cJ ad mr (upd (upd (upd mi 4 x_6) 5 v_237) 7 x_6) mf mg)) E hw231 inX8 tyX8_ok nmX8 0 4 q_546 rfl rfl (by decide) rfl rfl rfl rfl (Nat.le_of_ble_eq_true rfl) rfl dX8_step_221 (fun H locs hw238 => ?_)
                    refine lv_aload_n (pc := 224) E.1 E.2.1 dX8_step_224 rfl (lv_at hl9 0 rfl) ?_
                    refine lv_dup (pc := 225) E.1 E.2.1 dX8_step_225 rfl ?_
                    refine x_get (pc := 226) (T := TX8) (N := 9) (ci := 8) (v := .int x_6) E hw238 inX8 0 3 q_541 rfl rfl (by decide) rfl rfl dX8_step_226 ?_
                    refine lv_iconst (pc := 229) (v := 1) E.1 E.2.1 dX8_step_229 (by decide +kernel) ?_
                    refine lv_iadd (pc := 230) E.1 E.2.1 dX8_step_230 ?_
                    refine lv_topi (fun v_239 ev_239 => ?_)
                    have hv_239 : v_239.toInt = x_6.toInt + 1 := by rw [ev_239]; exact addE rfl (by decide +kernel) (by omega)
                    refine x_put (pc := 231) (T := TX8) (N := 9) (ci := 8) (ws' := (WZ_Tape cI cJ ad mr (upd (upd (upd mi 4 v_239) 5 v_237) 7 x_6) mf mg)) E hw238 inX8 tyX8_ok nmX8 0 3 q_541 rfl rfl (by decide) rfl rfl rfl rfl (Nat.le_of_ble_eq_true rfl) rfl dX8_step_231 (fun H locs hw240 => ?_)
                    exact em_v (w1 := (fun (u : Int32 × Int32 × Int32 × Int32) => (WZ_Tape cI cJ ad mr (upd (upd (upd (upd mi 4 u.1) 7 u.2.1) 5 u.2.2.1) 6 u.2.2.2) mf mg))) E hr hlk (v_239, x_6, v_237, (mi 6)) hw240 ⟨(by show 0 ≤ v_239.toInt; omega), (by show v_239.toInt ≤ (mi 2).toInt; omega), (show (((mi 8).toInt ≠ 0 → x_6.toInt = (mi 7).toInt ∧ v_239.toInt = (mi 4).toInt ∧ v_237.toInt = (mi 5).toInt ∧ (mi 6).toInt = (mi 6).toInt) ∧ ((mi 8).toInt = 0 → TKS (ti (mi 3)) (mf 1) (mi 2).toInt (mi 4).toInt x_6.toInt v_239.toInt v_237.toInt (mi 6).toInt)) from ⟨fun h => absurd (by omega) h, fun _ => (TKS_sgn hsk_21 ev_24 (by omega) (by omega) (ltr_f (by omega)) (dgt_f (by omega)) rfl (by omega) (Or.inl ⟨(six_6 (n := (sLen.getD 6 0 : Int)) (by decide +kernel)).mp (by have y := hp_232.mp (by omega); rw [(show v_227.toInt = v_24.toInt from by omega)] at y; exact y), by omega⟩))⟩)⟩ (Nat.le_of_ble_eq_true rfl) (Nat.le_of_ble_eq_true rfl) dX8_step_234
                · skip
                  have ha_212 : 58 ≤ v_203.toInt := ha_212
                  refine lv_if_eq (pc := 179) (tgt := 189) E.1 E.2.1 dX8_step_179 (by decide) (fun _ => ?_) (fun c_241 => absurd (meqE (a := 0) (b := 0) (by decide +kernel) (by decide +kernel) (by omega)) c_241)
                  refine lv_aload_n (pc := 189) E.1 E.2.1 dX8_step_189 rfl (lv_at hl9 0 rfl) ?_
                  refine x_lds (pc := 190) E hX.2.2.2.2.2.2.2 dX8_step_190 ?_
                  refine lv_aload_n (pc := 192) E.1 E.2.1 dX8_step_192 rfl (lv_at hl9 0 rfl) ?_
                  refine x_get (pc := 193) (T := TX8) (N := 9) (ci := 8) (v := .ref (mr 1)) E hw207 inX8 0 0 q_537 rfl rfl (by decide) rfl rfl dX8_step_193 ?_
                  refine lv_aload_n (pc := 196) E.1 E.2.1 dX8_step_196 rfl (lv_at hl9 0 rfl) ?_
                  refine x_get (pc := 197) (T := TX8) (N := 9) (ci := 8) (v := .int x_6) E hw207 inX8 0 3 q_541 rfl rfl (by decide) rfl rfl dX8_step_197 ?_
                  refine x_iald (pc := 200) (f := (mf 1)) E hw207 1 rfl (inbE (a := x_6.toInt) rfl (by omega)) dX8_step_200 ?_
                  refine lv_topi (fun v_242 ev_242 => ?_)
                  have hbv_242 := allR_at (n := 400) (lo := 0) (hi := 255) a_signs ev_242 (by show 0 ≤ x_6.toInt ∧ _; omega)
                  have hsv_242 : v_242.toInt = v_203.toInt := by rw [ev_242, ev_203]
                  refine lv_i2c (pc := 201) E.1 E.2.1 dX8_step_201 rfl ?_
                  refine lv_topi (fun v_243 ev_243 => ?_)
                  have hbv_243 : 0 ≤ v_243.toInt ∧ v_243.toInt ≤ 65535 := by rw [ev_243]; exact i2c_b _
                  have hi2v_243 : v_243.toInt = v_242.toInt := i2c_id (by omega) ev_243
                  refine cq_i (pc := 202) (ws' := (fun (u : Unit) => (WZ_Tape cI cJ ad mr (upd (upd mi 4 x_6) 7 x_6) mf mg))) hw207 [] [0, 1] [0, 1] rfl rfl (by decide) (by decide) (fun _ => rfl) (by decide) (rn_VS (As := [.int v_243]) (rest := [.ref (mr 0)]) E hw207 (t_indexOfW l D cI cJ _ (ixf [] mr) (ixf [] (upd (upd mi 4 x_6) 7 x_6)) (ixf [] mf) (ixf [] mg) v_243 ad av tf 6 (by decide) (by show 0 ≤ v_243.toInt ∧ v_243.toInt ≤ 255; omega)) (gdV q_789 q_790 q_791 q_163 q_792) hdV_J0_indexOf_0f7a4 ⟨rfl, rfl⟩ ⟨(Nat.le_of_ble_eq_true rfl), (Nat.le_of_ble_eq_true rfl)⟩ ⟨(Nat.le_of_ble_eq_true rfl), (Nat.le_of_ble_eq_true rfl)⟩ xS_b (xS_at hX.1 hw207.2.2.1 (va_free hw207.2.1 hw207.2.2.1 hw207.2.2.2 [] rfl)) hX.1.1 (by decide) rfl rfl [] rfl (by decide) rfl hl9.1 rfl (Nat.le_of_ble_eq_true rfl) dX8_step_202) (fun r_245 u_244 H1 locs hp hw246 => ?_)
                  generalize H1 = H at hw246 ⊢
                  have hw247 : WD D A s.heap (WZ_Tape cI cJ ad mr (upd (upd mi 4 x_6) 7 x_6) mf mg) H locs := hw246
                  have hp_248 := hp
                  have hp_248 : (0 ≤ (r_245 : Int32).toInt ↔ SIX 6 (v_243).toInt 0 (sLen.getD 6 0 : Int)) := hp_248
                  refine lv_if_lt (pc := 205) (tgt := 220) E.1 E.2.1 dX8_step_205 (by decide) (fun c_249 => ?_) (fun c_249 => ?_)
                  · skip
                    have hc_249 := ltE (a := r_245.toInt) (b := 0) rfl (by decide +kernel) c_249
                    refine lv_iconst (pc := 220) (v := 2) E.1 E.2.1 dX8_step_220 (by decide +kernel) ?_
                    refine x_put (pc := 221) (T := TX8) (N := 9) (ci := 8) (ws' := (WZ_Tape cI cJ ad mr (upd (upd (upd mi 4 x_6) 5 2) 7 x_6) mf mg)) E hw247 inX8 tyX8_ok nmX8 0 4 q_546 rfl rfl (by decide) rfl rfl rfl rfl (Nat.le_of_ble_eq_true rfl) rfl dX8_step_221 (fun H locs hw250 => ?_)
                    refine lv_aload_n (pc := 224) E.1 E.2.1 dX8_step_224 rfl (lv_at hl9 0 rfl) ?_
                    refine lv_dup (pc := 225) E.1 E.2.1 dX8_step_225 rfl ?_
                    refine x_get (pc := 226) (T := TX8) (N := 9) (ci := 8) (v := .int x_6) E hw250 inX8 0 3 q_541 rfl rfl (by decide) rfl rfl dX8_step_226 ?_
                    refine lv_iconst (pc := 229) (v := 1) E.1 E.2.1 dX8_step_229 (by decide +kernel) ?_
                    refine lv_iadd (pc := 230) E.1 E.2.1 dX8_step_230 ?_
                    refine lv_topi (fun v_251 ev_251 => ?_)
                    have hv_251 : v_251.toInt = x_6.toInt + 1 := by rw [ev_251]; exact addE rfl (by decide +kernel) (by omega)
                    refine x_put (pc := 231) (T := TX8) (N := 9) (ci := 8) (ws' := (WZ_Tape cI cJ ad mr (upd (upd (upd mi 4 v_251) 5 2) 7 x_6) mf mg)) E hw250 inX8 tyX8_ok nmX8 0 3 q_541 rfl rfl (by decide) rfl rfl rfl rfl (Nat.le_of_ble_eq_true rfl) rfl dX8_step_231 (fun H locs hw252 => ?_)
                    exact em_v (w1 := (fun (u : Int32 × Int32 × Int32 × Int32) => (WZ_Tape cI cJ ad mr (upd (upd (upd (upd mi 4 u.1) 7 u.2.1) 5 u.2.2.1) 6 u.2.2.2) mf mg))) E hr hlk (v_251, x_6, 2, (mi 6)) hw252 ⟨(by show 0 ≤ v_251.toInt; have k_0 : (2 : Int32).toInt = 2 := (by decide +kernel); omega), (by show v_251.toInt ≤ (mi 2).toInt; have k_0 : (2 : Int32).toInt = 2 := (by decide +kernel); omega), (show (((mi 8).toInt ≠ 0 → x_6.toInt = (mi 7).toInt ∧ v_251.toInt = (mi 4).toInt ∧ (2 : Int32).toInt = (mi 5).toInt ∧ (mi 6).toInt = (mi 6).toInt) ∧ ((mi 8).toInt = 0 → TKS (ti (mi 3)) (mf 1) (mi 2).toInt (mi 4).toInt x_6.toInt v_251.toInt (2 : Int32).toInt (mi 6).toInt)) from ⟨fun h => absurd (by omega) h, fun _ => (TKS_sgn hsk_21 ev_24 (by omega) (by omega) (ltr_f (by omega)) (dgt_f (by omega)) rfl (by omega) (Or.inr ⟨Bool.eq_false_iff.mpr (fun z => absurd (hp_248.mpr (by rw [(show v_243.toInt = v_24.toInt from by omega)]; exact (six_6 (n := (sLen.getD 6 0 : Int)) (by decide +kernel)).mpr z)) (by omega)), by decide +kernel⟩))⟩)⟩ (Nat.le_of_ble_eq_true rfl) (Nat.le_of_ble_eq_true rfl) dX8_step_234
                  · skip
                    have hc_249 := nltE (a := r_245.toInt) (b := 0) rfl (by decide +kernel) c_249
                    refine lv_aload_n (pc := 208) E.1 E.2.1 dX8_step_208 rfl (lv_at hl9 0 rfl) ?_
                    refine x_get (pc := 209) (T := TX8) (N := 9) (ci := 8) (v := .ref (mr 1)) E hw247 inX8 0 0 q_537 rfl rfl (by decide) rfl rfl dX8_step_209 ?_
                    refine lv_aload_n (pc := 212) E.1 E.2.1 dX8_step_212 rfl (lv_at hl9 0 rfl) ?_
                    refine x_get (pc := 213) (T := TX8) (N := 9) (ci := 8) (v := .int x_6) E hw247 inX8 0 3 q_541 rfl rfl (by decide) rfl rfl dX8_step_213 ?_
                    refine x_iald (pc := 216) (f := (mf 1)) E hw247 1 rfl (inbE (a := x_6.toInt) rfl (by omega)) dX8_step_216 ?_
                    refine lv_topi (fun v_253 ev_253 => ?_)
                    have hbv_253 := allR_at (n := 400) (lo := 0) (hi := 255) a_signs ev_253 (by show 0 ≤ x_6.toInt ∧ _; omega)
                    have hsv_253 : v_253.toInt = v_242.toInt := by rw [ev_253, ev_242]
                    refine lv_goto (pc := 217) (tgt := 221) E.1 E.2.1 dX8_step_217 (by decide) ?_
                    refine x_put (pc := 221) (T := TX8) (N := 9) (ci := 8) (ws' := (WZ_Tape cI cJ ad mr (upd (upd (upd mi 4 x_6) 5 v_253) 7 x_6) mf mg)) E hw247 inX8 tyX8_ok nmX8 0 4 q_546 rfl rfl (by decide) rfl rfl rfl rfl (Nat.le_of_ble_eq_true rfl) rfl dX8_step_221 (fun H locs hw254 => ?_)
                    refine lv_aload_n (pc := 224) E.1 E.2.1 dX8_step_224 rfl (lv_at hl9 0 rfl) ?_
                    refine lv_dup (pc := 225) E.1 E.2.1 dX8_step_225 rfl ?_
                    refine x_get (pc := 226) (T := TX8) (N := 9) (ci := 8) (v := .int x_6) E hw254 inX8 0 3 q_541 rfl rfl (by decide) rfl rfl dX8_step_226 ?_
                    refine lv_iconst (pc := 229) (v := 1) E.1 E.2.1 dX8_step_229 (by decide +kernel) ?_
                    refine lv_iadd (pc := 230) E.1 E.2.1 dX8_step_230 ?_
                    refine lv_topi (fun v_255 ev_255 => ?_)
                    have hv_255 : v_255.toInt = x_6.toInt + 1 := by rw [ev_255]; exact addE rfl (by decide +kernel) (by omega)
                    refine x_put (pc := 231) (T := TX8) (N := 9) (ci := 8) (ws' := (WZ_Tape cI cJ ad mr (upd (upd (upd mi 4 v_255) 5 v_253) 7 x_6) mf mg)) E hw254 inX8 tyX8_ok nmX8 0 3 q_541 rfl rfl (by decide) rfl rfl rfl rfl (Nat.le_of_ble_eq_true rfl) rfl dX8_step_231 (fun H locs hw256 => ?_)
                    exact em_v (w1 := (fun (u : Int32 × Int32 × Int32 × Int32) => (WZ_Tape cI cJ ad mr (upd (upd (upd (upd mi 4 u.1) 7 u.2.1) 5 u.2.2.1) 6 u.2.2.2) mf mg))) E hr hlk (v_255, x_6, v_253, (mi 6)) hw256 ⟨(by show 0 ≤ v_255.toInt; omega), (by show v_255.toInt ≤ (mi 2).toInt; omega), (show (((mi 8).toInt ≠ 0 → x_6.toInt = (mi 7).toInt ∧ v_255.toInt = (mi 4).toInt ∧ v_253.toInt = (mi 5).toInt ∧ (mi 6).toInt = (mi 6).toInt) ∧ ((mi 8).toInt = 0 → TKS (ti (mi 3)) (mf 1) (mi 2).toInt (mi 4).toInt x_6.toInt v_255.toInt v_253.toInt (mi 6).toInt)) from ⟨fun h => absurd (by omega) h, fun _ => (TKS_sgn hsk_21 ev_24 (by omega) (by omega) (ltr_f (by omega)) (dgt_f (by omega)) rfl (by omega) (Or.inl ⟨(six_6 (n := (sLen.getD 6 0 : Int)) (by decide +kernel)).mp (by have y := hp_248.mp (by omega); rw [(show v_243.toInt = v_24.toInt from by omega)] at y; exact y), by omega⟩))⟩)⟩ (Nat.le_of_ble_eq_true rfl) (Nat.le_of_ble_eq_true rfl) dX8_step_234
              · skip
                have ha_35 : 91 ≤ v_24.toInt := ha_35
                have ha_36 : v_24.toInt ≤ 96 := ha_36
                refine lv_if_eq (pc := 99) (tgt := 167) E.1 E.2.1 dX8_step_99 (by decide) (fun _ => ?_) (fun c_257 => absurd (meqE (a := 0) (b := 0) (by decide +kernel) (by decide +kernel) (by omega)) c_257)
                refine lv_aload_n (pc := 167) E.1 E.2.1 dX8_step_167 rfl (lv_at hl9 0 rfl) ?_
                refine x_get (pc := 168) (T := TX8) (N := 9) (ci := 8) (v := .ref (mr 1)) E hw28 inX8 0 0 q_537 rfl rfl (by decide) rfl rfl dX8_step_168 ?_
                refine lv_aload_n (pc := 171) E.1 E.2.1 dX8_step_171 rfl (lv_at hl9 0 rfl) ?_
                refine x_get (pc := 172) (T := TX8) (N := 9) (ci := 8) (v := .int x_6) E hw28 inX8 0 3 q_541 rfl rfl (by decide) rfl rfl dX8_step_172 ?_
                refine x_iald (pc := 175) (f := (mf 1)) E hw28 1 rfl (inbE (a := x_6.toInt) rfl (by omega)) dX8_step_175 ?_
                refine lv_topi (fun v_258 ev_258 => ?_)
                have hbv_258 := allR_at (n := 400) (lo := 0) (hi := 255) a_signs ev_258 (by show 0 ≤ x_6.toInt ∧ _; omega)
                have hsv_258 : v_258.toInt = v_24.toInt := by rw [ev_258, ev_24]
                refine cq_i (pc := 176) (ws' := (fun (u : Unit) => (WZ_Tape cI cJ ad mr (upd (upd mi 4 x_6) 7 x_6) mf mg))) hw28 [] [0, 1] [0, 1] rfl rfl (by decide) (by decide) (fun _ => rfl) (by decide) (rn_S (As := [.int v_258]) (rest := []) E hw28 (t_isDigitW l D cI cJ _ (ixf [] mr) (ixf [] (upd (upd mi 4 x_6) 7 x_6)) (ixf [] mf) (ixf [] mg) v_258) (gdS q_781 q_782 q_160 q_783) hdV_X8_isDigit ⟨rfl, rfl⟩ ⟨(Nat.le_of_ble_eq_true rfl), (Nat.le_of_ble_eq_true rfl)⟩ ⟨(Nat.le_of_ble_eq_true rfl), (Nat.le_of_ble_eq_true rfl)⟩ xT_b xT_at [] rfl (by decide) rfl hl9.1 rfl (Nat.le_of_ble_eq_true rfl) dX8_step_176) (fun r_260 u_259 H1 locs hp hw261 => ?_)
                generalize H1 = H at hw261 ⊢
                have hw262 : WD D A s.heap (WZ_Tape cI cJ ad mr (upd (upd mi 4 x_6) 7 x_6) mf mg) H locs := hw261
                have hp_263 := hp
                rcases hp_263 with ⟨rfl, ha_264, ha_265⟩ | ⟨rfl, ha_266⟩ | ⟨rfl, ha_267⟩
                · skip
                  have ha_264 : 48 ≤ v_258.toInt := ha_264
                  have ha_265 : v_258.toInt ≤ 57 := ha_265
                  exfalso; omega
                · skip
                  have ha_266 : v_258.toInt ≤ 47 := ha_266
                  exfalso; omega
                · skip
                  have ha_267 : 58 ≤ v_258.toInt := ha_267
                  refine lv_if_eq (pc := 179) (tgt := 189) E.1 E.2.1 dX8_step_179 (by decide) (fun _ => ?_) (fun c_268 => absurd (meqE (a := 0) (b := 0) (by decide +kernel) (by decide +kernel) (by omega)) c_268)
                  refine lv_aload_n (pc := 189) E.1 E.2.1 dX8_step_189 rfl (lv_at hl9 0 rfl) ?_
                  refine x_lds (pc := 190) E hX.2.2.2.2.2.2.2 dX8_step_190 ?_
                  refine lv_aload_n (pc := 192) E.1 E.2.1 dX8_step_192 rfl (lv_at hl9 0 rfl) ?_
                  refine x_get (pc := 193) (T := TX8) (N := 9) (ci := 8) (v := .ref (mr 1)) E hw262 inX8 0 0 q_537 rfl rfl (by decide) rfl rfl dX8_step_193 ?_
                  refine lv_aload_n (pc := 196) E.1 E.2.1 dX8_step_196 rfl (lv_at hl9 0 rfl) ?_
                  refine x_get (pc := 197) (T := TX8) (N := 9) (ci := 8) (v := .int x_6) E hw262 inX8 0 3 q_541 rfl rfl (by decide) rfl rfl dX8_step_197 ?_
                  refine x_iald (pc := 200) (f := (mf 1)) E hw262 1 rfl (inbE (a := x_6.toInt) rfl (by omega)) dX8_step_200 ?_
                  refine lv_topi (fun v_269 ev_269 => ?_)
                  have hbv_269 := allR_at (n := 400) (lo := 0) (hi := 255) a_signs ev_269 (by show 0 ≤ x_6.toInt ∧ _; omega)
                  have hsv_269 : v_269.toInt = v_258.toInt := by rw [ev_269, ev_258]
                  refine lv_i2c (pc := 201) E.1 E.2.1 dX8_step_201 rfl ?_
                  refine lv_topi (fun v_270 ev_270 => ?_)
                  have hbv_270 : 0 ≤ v_270.toInt ∧ v_270.toInt ≤ 65535 := by rw [ev_270]; exact i2c_b _
                  have hi2v_270 : v_270.toInt = v_269.toInt := i2c_id (by omega) ev_270
                  refine cq_i (pc := 202) (ws' := (fun (u : Unit) => (WZ_Tape cI cJ ad mr (upd (upd mi 4 x_6) 7 x_6) mf mg))) hw262 [] [0, 1] [0, 1] rfl rfl (by decide) (by decide) (fun _ => rfl) (by decide) (rn_VS (As := [.int v_270]) (rest := [.ref (mr 0)]) E hw262 (t_indexOfW l D cI cJ _ (ixf [] mr) (ixf [] (upd (upd mi 4 x_6) 7 x_6)) (ixf [] mf) (ixf [] mg) v_270 ad av tf 6 (by decide) (by show 0 ≤ v_270.toInt ∧ v_270.toInt ≤ 255; omega)) (gdV q_789 q_790 q_791 q_163 q_792) hdV_J0_indexOf_0f7a4 ⟨rfl, rfl⟩ ⟨(Nat.le_of_ble_eq_true rfl), (Nat.le_of_ble_eq_true rfl)⟩ ⟨(Nat.le_of_ble_eq_true rfl), (Nat.le_of_ble_eq_true rfl)⟩ xS_b (xS_at hX.1 hw262.2.2.1 (va_free hw262.2.1 hw262.2.2.1 hw262.2.2.2 [] rfl)) hX.1.1 (by decide) rfl rfl [] rfl (by decide) rfl hl9.1 rfl (Nat.le_of_ble_eq_true rfl) dX8_step_202) (fun r_272 u_271 H1 locs hp hw273 => ?_)
                  generalize H1 = H at hw273 ⊢
                  have hw274 : WD D A s.heap (WZ_Tape cI cJ ad mr (upd (upd mi 4 x_6) 7 x_6) mf mg) H locs := hw273
                  have hp_275 := hp
                  have hp_275 : (0 ≤ (r_272 : Int32).toInt ↔ SIX 6 (v_270).toInt 0 (sLen.getD 6 0 : Int)) := hp_275
                  refine lv_if_lt (pc := 205) (tgt := 220) E.1 E.2.1 dX8_step_205 (by decide) (fun c_276 => ?_) (fun c_276 => ?_)
                  · skip
                    have hc_276 := ltE (a := r_272.toInt) (b := 0) rfl (by decide +kernel) c_276
                    refine lv_iconst (pc := 220) (v := 2) E.1 E.2.1 dX8_step_220 (by decide +kernel) ?_
                    refine x_put (pc := 221) (T := TX8) (N := 9) (ci := 8) (ws' := (WZ_Tape cI cJ ad mr (upd (upd (upd mi 4 x_6) 5 2) 7 x_6) mf mg)) E hw274 inX8 tyX8_ok nmX8 0 4 q_546 rfl rfl (by decide) rfl rfl rfl rfl (Nat.le_of_ble_eq_true rfl) rfl dX8_step_221 (fun H locs hw277 => ?_)
                    refine lv_aload_n (pc := 224) E.1 E.2.1 dX8_step_224 rfl (lv_at hl9 0 rfl) ?_
                    refine lv_dup (pc := 225) E.1 E.2.1 dX8_step_225 rfl ?_
                    refine x_get (pc := 226) (T := TX8) (N := 9) (ci := 8) (v := .int x_6) E hw277 inX8 0 3 q_541 rfl rfl (by decide) rfl rfl dX8_step_226 ?_
                    refine lv_iconst (pc := 229) (v := 1) E.1 E.2.1 dX8_step_229 (by decide +kernel) ?_
                    refine lv_iadd (pc := 230) E.1 E.2.1 dX8_step_230 ?_
                    refine lv_topi (fun v_278 ev_278 => ?_)
                    have hv_278 : v_278.toInt = x_6.toInt + 1 := by rw [ev_278]; exact addE rfl (by decide +kernel) (by omega)
                    refine x_put (pc := 231) (T := TX8) (N := 9) (ci := 8) (ws' := (WZ_Tape cI cJ ad mr (upd (upd (upd mi 4 v_278) 5 2) 7 x_6) mf mg)) E hw277 inX8 tyX8_ok nmX8 0 3 q_541 rfl rfl (by decide) rfl rfl rfl rfl (Nat.le_of_ble_eq_true rfl) rfl dX8_step_231 (fun H locs hw279 => ?_)
                    exact em_v (w1 := (fun (u : Int32 × Int32 × Int32 × Int32) => (WZ_Tape cI cJ ad mr (upd (upd (upd (upd mi 4 u.1) 7 u.2.1) 5 u.2.2.1) 6 u.2.2.2) mf mg))) E hr hlk (v_278, x_6, 2, (mi 6)) hw279 ⟨(by show 0 ≤ v_278.toInt; have k_0 : (2 : Int32).toInt = 2 := (by decide +kernel); omega), (by show v_278.toInt ≤ (mi 2).toInt; have k_0 : (2 : Int32).toInt = 2 := (by decide +kernel); omega), (show (((mi 8).toInt ≠ 0 → x_6.toInt = (mi 7).toInt ∧ v_278.toInt = (mi 4).toInt ∧ (2 : Int32).toInt = (mi 5).toInt ∧ (mi 6).toInt = (mi 6).toInt) ∧ ((mi 8).toInt = 0 → TKS (ti (mi 3)) (mf 1) (mi 2).toInt (mi 4).toInt x_6.toInt v_278.toInt (2 : Int32).toInt (mi 6).toInt)) from ⟨fun h => absurd (by omega) h, fun _ => (TKS_sgn hsk_21 ev_24 (by omega) (by omega) (ltr_f (by omega)) (dgt_f (by omega)) rfl (by omega) (Or.inr ⟨Bool.eq_false_iff.mpr (fun z => absurd (hp_275.mpr (by rw [(show v_270.toInt = v_24.toInt from by omega)]; exact (six_6 (n := (sLen.getD 6 0 : Int)) (by decide +kernel)).mpr z)) (by omega)), by decide +kernel⟩))⟩)⟩ (Nat.le_of_ble_eq_true rfl) (Nat.le_of_ble_eq_true rfl) dX8_step_234
                  · skip
                    have hc_276 := nltE (a := r_272.toInt) (b := 0) rfl (by decide +kernel) c_276
                    refine lv_aload_n (pc := 208) E.1 E.2.1 dX8_step_208 rfl (lv_at hl9 0 rfl) ?_
                    refine x_get (pc := 209) (T := TX8) (N := 9) (ci := 8) (v := .ref (mr 1)) E hw274 inX8 0 0 q_537 rfl rfl (by decide) rfl rfl dX8_step_209 ?_
                    refine lv_aload_n (pc := 212) E.1 E.2.1 dX8_step_212 rfl (lv_at hl9 0 rfl) ?_
                    refine x_get (pc := 213) (T := TX8) (N := 9) (ci := 8) (v := .int x_6) E hw274 inX8 0 3 q_541 rfl rfl (by decide) rfl rfl dX8_step_213 ?_
                    refine x_iald (pc := 216) (f := (mf 1)) E hw274 1 rfl (inbE (a := x_6.toInt) rfl (by omega)) dX8_step_216 ?_
                    refine lv_topi (fun v_280 ev_280 => ?_)
                    have hbv_280 := allR_at (n := 400) (lo := 0) (hi := 255) a_signs ev_280 (by show 0 ≤ x_6.toInt ∧ _; omega)
                    have hsv_280 : v_280.toInt = v_269.toInt := by rw [ev_280, ev_269]
                    refine lv_goto (pc := 217) (tgt := 221) E.1 E.2.1 dX8_step_217 (by decide) ?_
                    refine x_put (pc := 221) (T := TX8) (N := 9) (ci := 8) (ws' := (WZ_Tape cI cJ ad mr (upd (upd (upd mi 4 x_6) 5 v_280) 7 x_6) mf mg)) E hw274 inX8 tyX8_ok nmX8 0 4 q_546 rfl rfl (by decide) rfl rfl rfl rfl (Nat.le_of_ble_eq_true rfl) rfl dX8_step_221 (fun H locs hw281 => ?_)
                    refine lv_aload_n (pc := 224) E.1 E.2.1 dX8_step_224 rfl (lv_at hl9 0 rfl) ?_
                    refine lv_dup (pc := 225) E.1 E.2.1 dX8_step_225 rfl ?_
                    refine x_get (pc := 226) (T := TX8) (N := 9) (ci := 8) (v := .int x_6) E hw281 inX8 0 3 q_541 rfl rfl (by decide) rfl rfl dX8_step_226 ?_
                    refine lv_iconst (pc := 229) (v := 1) E.1 E.2.1 dX8_step_229 (by decide +kernel) ?_
                    refine lv_iadd (pc := 230) E.1 E.2.1 dX8_step_230 ?_
                    refine lv_topi (fun v_282 ev_282 => ?_)
                    have hv_282 : v_282.toInt = x_6.toInt + 1 := by rw [ev_282]; exact addE rfl (by decide +kernel) (by omega)
                    refine x_put (pc := 231) (T := TX8) (N := 9) (ci := 8) (ws' := (WZ_Tape cI cJ ad mr (upd (upd (upd mi 4 v_282) 5 v_280) 7 x_6) mf mg)) E hw281 inX8 tyX8_ok nmX8 0 3 q_541 rfl rfl (by decide) rfl rfl rfl rfl (Nat.le_of_ble_eq_true rfl) rfl dX8_step_231 (fun H locs hw283 => ?_)
                    exact em_v (w1 := (fun (u : Int32 × Int32 × Int32 × Int32) => (WZ_Tape cI cJ ad mr (upd (upd (upd (upd mi 4 u.1) 7 u.2.1) 5 u.2.2.1) 6 u.2.2.2) mf mg))) E hr hlk (v_282, x_6, v_280, (mi 6)) hw283 ⟨(by show 0 ≤ v_282.toInt; omega), (by show v_282.toInt ≤ (mi 2).toInt; omega), (show (((mi 8).toInt ≠ 0 → x_6.toInt = (mi 7).toInt ∧ v_282.toInt = (mi 4).toInt ∧ v_280.toInt = (mi 5).toInt ∧ (mi 6).toInt = (mi 6).toInt) ∧ ((mi 8).toInt = 0 → TKS (ti (mi 3)) (mf 1) (mi 2).toInt (mi 4).toInt x_6.toInt v_282.toInt v_280.toInt (mi 6).toInt)) from ⟨fun h => absurd (by omega) h, fun _ => (TKS_sgn hsk_21 ev_24 (by omega) (by omega) (ltr_f (by omega)) (dgt_f (by omega)) rfl (by omega) (Or.inl ⟨(six_6 (n := (sLen.getD 6 0 : Int)) (by decide +kernel)).mp (by have y := hp_275.mp (by omega); rw [(show v_270.toInt = v_24.toInt from by omega)] at y; exact y), by omega⟩))⟩)⟩ (Nat.le_of_ble_eq_true rfl) (Nat.le_of_ble_eq_true rfl) dX8_step_234
              · skip
                have ha_37 : 123 ≤ v_24.toInt := ha_37
                refine lv_if_eq (pc := 99) (tgt := 167) E.1 E.2.1 dX8_step_99 (by decide) (fun _ => ?_) (fun c_284 => absurd (meqE (a := 0) (b := 0) (by decide +kernel) (by decide +kernel) (by omega)) c_284)
                refine lv_aload_n (pc := 167) E.1 E.2.1 dX8_step_167 rfl (lv_at hl9 0 rfl) ?_
                refine x_get (pc := 168) (T := TX8) (N := 9) (ci := 8) (v := .ref (mr 1)) E hw28 inX8 0 0 q_537 rfl rfl (by decide) rfl rfl dX8_step_168 ?_
                refine lv_aload_n (pc := 171) E.1 E.2.1 dX8_step_171 rfl (lv_at hl9 0 rfl) ?_
                refine x_get (pc := 172) (T := TX8) (N := 9) (ci := 8) (v := .int x_6) E hw28 inX8 0 3 q_541 rfl rfl (by decide) rfl rfl dX8_step_172 ?_
                refine x_iald (pc := 175) (f := (mf 1)) E hw28 1 rfl (inbE (a := x_6.toInt) rfl (by omega)) dX8_step_175 ?_
                refine lv_topi (fun v_285 ev_285 => ?_)
                have hbv_285 := allR_at (n := 400) (lo := 0) (hi := 255) a_signs ev_285 (by show 0 ≤ x_6.toInt ∧ _; omega)
                have hsv_285 : v_285.toInt = v_24.toInt := by rw [ev_285, ev_24]
                refine cq_i (pc := 176) (ws' := (fun (u : Unit) => (WZ_Tape cI cJ ad mr (upd (upd mi 4 x_6) 7 x_6) mf mg))) hw28 [] [0, 1] [0, 1] rfl rfl (by decide) (by decide) (fun _ => rfl) (by decide) (rn_S (As := [.int v_285]) (rest := []) E hw28 (t_isDigitW l D cI cJ _ (ixf [] mr) (ixf [] (upd (upd mi 4 x_6) 7 x_6)) (ixf [] mf) (ixf [] mg) v_285) (gdS q_781 q_782 q_160 q_783) hdV_X8_isDigit ⟨rfl, rfl⟩ ⟨(Nat.le_of_ble_eq_true rfl), (Nat.le_of_ble_eq_true rfl)⟩ ⟨(Nat.le_of_ble_eq_true rfl), (Nat.le_of_ble_eq_true rfl)⟩ xT_b xT_at [] rfl (by decide) rfl hl9.1 rfl (Nat.le_of_ble_eq_true rfl) dX8_step_176) (fun r_287 u_286 H1 locs hp hw288 => ?_)
                generalize H1 = H at hw288 ⊢
                have hw289 : WD D A s.heap (WZ_Tape cI cJ ad mr (upd (upd mi 4 x_6) 7 x_6) mf mg) H locs := hw288
                have hp_290 := hp
                rcases hp_290 with ⟨rfl, ha_291, ha_292⟩ | ⟨rfl, ha_293⟩ | ⟨rfl, ha_294⟩
                · skip
                  have ha_291 : 48 ≤ v_285.toInt := ha_291
                  have ha_292 : v_285.toInt ≤ 57 := ha_292
                  exfalso; omega
                · skip
                  have ha_293 : v_285.toInt ≤ 47 := ha_293
                  exfalso; omega
                · skip
                  have ha_294 : 58 ≤ v_285.toInt := ha_294
                  refine lv_if_eq (pc := 179) (tgt := 189) E.1 E.2.1 dX8_step_179 (by decide) (fun _ => ?_) (fun c_295 => absurd (meqE (a := 0) (b := 0) (by decide +kernel) (by decide +kernel) (by omega)) c_295)
                  refine lv_aload_n (pc := 189) E.1 E.2.1 dX8_step_189 rfl (lv_at hl9 0 rfl) ?_
                  refine x_lds (pc := 190) E hX.2.2.2.2.2.2.2 dX8_step_190 ?_
                  refine lv_aload_n (pc := 192) E.1 E.2.1 dX8_step_192 rfl (lv_at hl9 0 rfl) ?_
                  refine x_get (pc := 193) (T := TX8) (N := 9) (ci := 8) (v := .ref (mr 1)) E hw289 inX8 0 0 q_537 rfl rfl (by decide) rfl rfl dX8_step_193 ?_
                  refine lv_aload_n (pc := 196) E.1 E.2.1 dX8_step_196 rfl (lv_at hl9 0 rfl) ?_
                  refine x_get (pc := 197) (T := TX8) (N := 9) (ci := 8) (v := .int x_6) E hw289 inX8 0 3 q_541 rfl rfl (by decide) rfl rfl dX8_step_197 ?_
                  refine x_iald (pc := 200) (f := (mf 1)) E hw289 1 rfl (inbE (a := x_6.toInt) rfl (by omega)) dX8_step_200 ?_
                  refine lv_topi (fun v_296 ev_296 => ?_)
                  have hbv_296 := allR_at (n := 400) (lo := 0) (hi := 255) a_signs ev_296 (by show 0 ≤ x_6.toInt ∧ _; omega)
                  have hsv_296 : v_296.toInt = v_285.toInt := by rw [ev_296, ev_285]
                  refine lv_i2c (pc := 201) E.1 E.2.1 dX8_step_201 rfl ?_
                  refine lv_topi (fun v_297 ev_297 => ?_)
                  have hbv_297 : 0 ≤ v_297.toInt ∧ v_297.toInt ≤ 65535 := by rw [ev_297]; exact i2c_b _
                  have hi2v_297 : v_297.toInt = v_296.toInt := i2c_id (by omega) ev_297
                  refine cq_i (pc := 202) (ws' := (fun (u : Unit) => (WZ_Tape cI cJ ad mr (upd (upd mi 4 x_6) 7 x_6) mf mg))) hw289 [] [0, 1] [0, 1] rfl rfl (by decide) (by decide) (fun _ => rfl) (by decide) (rn_VS (As := [.int v_297]) (rest := [.ref (mr 0)]) E hw289 (t_indexOfW l D cI cJ _ (ixf [] mr) (ixf [] (upd (upd mi 4 x_6) 7 x_6)) (ixf [] mf) (ixf [] mg) v_297 ad av tf 6 (by decide) (by show 0 ≤ v_297.toInt ∧ v_297.toInt ≤ 255; omega)) (gdV q_789 q_790 q_791 q_163 q_792) hdV_J0_indexOf_0f7a4 ⟨rfl, rfl⟩ ⟨(Nat.le_of_ble_eq_true rfl), (Nat.le_of_ble_eq_true rfl)⟩ ⟨(Nat.le_of_ble_eq_true rfl), (Nat.le_of_ble_eq_true rfl)⟩ xS_b (xS_at hX.1 hw289.2.2.1 (va_free hw289.2.1 hw289.2.2.1 hw289.2.2.2 [] rfl)) hX.1.1 (by decide) rfl rfl [] rfl (by decide) rfl hl9.1 rfl (Nat.le_of_ble_eq_true rfl) dX8_step_202) (fun r_299 u_298 H1 locs hp hw300 => ?_)
                  generalize H1 = H at hw300 ⊢
                  have hw301 : WD D A s.heap (WZ_Tape cI cJ ad mr (upd (upd mi 4 x_6) 7 x_6) mf mg) H locs := hw300
                  have hp_302 := hp
                  have hp_302 : (0 ≤ (r_299 : Int32).toInt ↔ SIX 6 (v_297).toInt 0 (sLen.getD 6 0 : Int)) := hp_302
                  refine lv_if_lt (pc := 205) (tgt := 220) E.1 E.2.1 dX8_step_205 (by decide) (fun c_303 => ?_) (fun c_303 => ?_)
                  · skip
                    have hc_303 := ltE (a := r_299.toInt) (b := 0) rfl (by decide +kernel) c_303
                    refine lv_iconst (pc := 220) (v := 2) E.1 E.2.1 dX8_step_220 (by decide +kernel) ?_
                    refine x_put (pc := 221) (T := TX8) (N := 9) (ci := 8) (ws' := (WZ_Tape cI cJ ad mr (upd (upd (upd mi 4 x_6) 5 2) 7 x_6) mf mg)) E hw301 inX8 tyX8_ok nmX8 0 4 q_546 rfl rfl (by decide) rfl rfl rfl rfl (Nat.le_of_ble_eq_true rfl) rfl dX8_step_221 (fun H locs hw304 => ?_)
                    refine lv_aload_n (pc := 224) E.1 E.2.1 dX8_step_224 rfl (lv_at hl9 0 rfl) ?_
                    refine lv_dup (pc := 225) E.1 E.2.1 dX8_step_225 rfl ?_
                    refine x_get (pc := 226) (T := TX8) (N := 9) (ci := 8) (v := .int x_6) E hw304 inX8 0 3 q_541 rfl rfl (by decide) rfl rfl dX8_step_226 ?_
                    refine lv_iconst (pc := 229) (v := 1) E.1 E.2.1 dX8_step_229 (by decide +kernel) ?_
                    refine lv_iadd (pc := 230) E.1 E.2.1 dX8_step_230 ?_
                    refine lv_topi (fun v_305 ev_305 => ?_)
                    have hv_305 : v_305.toInt = x_6.toInt + 1 := by rw [ev_305]; exact addE rfl (by decide +kernel) (by omega)
                    refine x_put (pc := 231) (T := TX8) (N := 9) (ci := 8) (ws' := (WZ_Tape cI cJ ad mr (upd (upd (upd mi 4 v_305) 5 2) 7 x_6) mf mg)) E hw304 inX8 tyX8_ok nmX8 0 3 q_541 rfl rfl (by decide) rfl rfl rfl rfl (Nat.le_of_ble_eq_true rfl) rfl dX8_step_231 (fun H locs hw306 => ?_)
                    exact em_v (w1 := (fun (u : Int32 × Int32 × Int32 × Int32) => (WZ_Tape cI cJ ad mr (upd (upd (upd (upd mi 4 u.1) 7 u.2.1) 5 u.2.2.1) 6 u.2.2.2) mf mg))) E hr hlk (v_305, x_6, 2, (mi 6)) hw306 ⟨(by show 0 ≤ v_305.toInt; have k_0 : (2 : Int32).toInt = 2 := (by decide +kernel); omega), (by show v_305.toInt ≤ (mi 2).toInt; have k_0 : (2 : Int32).toInt = 2 := (by decide +kernel); omega), (show (((mi 8).toInt ≠ 0 → x_6.toInt = (mi 7).toInt ∧ v_305.toInt = (mi 4).toInt ∧ (2 : Int32).toInt = (mi 5).toInt ∧ (mi 6).toInt = (mi 6).toInt) ∧ ((mi 8).toInt = 0 → TKS (ti (mi 3)) (mf 1) (mi 2).toInt (mi 4).toInt x_6.toInt v_305.toInt (2 : Int32).toInt (mi 6).toInt)) from ⟨fun h => absurd (by omega) h, fun _ => (TKS_sgn hsk_21 ev_24 (by omega) (by omega) (ltr_f (by omega)) (dgt_f (by omega)) rfl (by omega) (Or.inr ⟨Bool.eq_false_iff.mpr (fun z => absurd (hp_302.mpr (by rw [(show v_297.toInt = v_24.toInt from by omega)]; exact (six_6 (n := (sLen.getD 6 0 : Int)) (by decide +kernel)).mpr z)) (by omega)), by decide +kernel⟩))⟩)⟩ (Nat.le_of_ble_eq_true rfl) (Nat.le_of_ble_eq_true rfl) dX8_step_234
                  · skip
                    have hc_303 := nltE (a := r_299.toInt) (b := 0) rfl (by decide +kernel) c_303
                    refine lv_aload_n (pc := 208) E.1 E.2.1 dX8_step_208 rfl (lv_at hl9 0 rfl) ?_
                    refine x_get (pc := 209) (T := TX8) (N := 9) (ci := 8) (v := .ref (mr 1)) E hw301 inX8 0 0 q_537 rfl rfl (by decide) rfl rfl dX8_step_209 ?_
                    refine lv_aload_n (pc := 212) E.1 E.2.1 dX8_step_212 rfl (lv_at hl9 0 rfl) ?_
                    refine x_get (pc := 213) (T := TX8) (N := 9) (ci := 8) (v := .int x_6) E hw301 inX8 0 3 q_541 rfl rfl (by decide) rfl rfl dX8_step_213 ?_
                    refine x_iald (pc := 216) (f := (mf 1)) E hw301 1 rfl (inbE (a := x_6.toInt) rfl (by omega)) dX8_step_216 ?_
                    refine lv_topi (fun v_307 ev_307 => ?_)
                    have hbv_307 := allR_at (n := 400) (lo := 0) (hi := 255) a_signs ev_307 (by show 0 ≤ x_6.toInt ∧ _; omega)
                    have hsv_307 : v_307.toInt = v_296.toInt := by rw [ev_307, ev_296]
                    refine lv_goto (pc := 217) (tgt := 221) E.1 E.2.1 dX8_step_217 (by decide) ?_
                    refine x_put (pc := 221) (T := TX8) (N := 9) (ci := 8) (ws' := (WZ_Tape cI cJ ad mr (upd (upd (upd mi 4 x_6) 5 v_307) 7 x_6) mf mg)) E hw301 inX8 tyX8_ok nmX8 0 4 q_546 rfl rfl (by decide) rfl rfl rfl rfl (Nat.le_of_ble_eq_true rfl) rfl dX8_step_221 (fun H locs hw308 => ?_)
                    refine lv_aload_n (pc := 224) E.1 E.2.1 dX8_step_224 rfl (lv_at hl9 0 rfl) ?_
                    refine lv_dup (pc := 225) E.1 E.2.1 dX8_step_225 rfl ?_
                    refine x_get (pc := 226) (T := TX8) (N := 9) (ci := 8) (v := .int x_6) E hw308 inX8 0 3 q_541 rfl rfl (by decide) rfl rfl dX8_step_226 ?_
                    refine lv_iconst (pc := 229) (v := 1) E.1 E.2.1 dX8_step_229 (by decide +kernel) ?_
                    refine lv_iadd (pc := 230) E.1 E.2.1 dX8_step_230 ?_
                    refine lv_topi (fun v_309 ev_309 => ?_)
                    have hv_309 : v_309.toInt = x_6.toInt + 1 := by rw [ev_309]; exact addE rfl (by decide +kernel) (by omega)
                    refine x_put (pc := 231) (T := TX8) (N := 9) (ci := 8) (ws' := (WZ_Tape cI cJ ad mr (upd (upd (upd mi 4 v_309) 5 v_307) 7 x_6) mf mg)) E hw308 inX8 tyX8_ok nmX8 0 3 q_541 rfl rfl (by decide) rfl rfl rfl rfl (Nat.le_of_ble_eq_true rfl) rfl dX8_step_231 (fun H locs hw310 => ?_)
                    exact em_v (w1 := (fun (u : Int32 × Int32 × Int32 × Int32) => (WZ_Tape cI cJ ad mr (upd (upd (upd (upd mi 4 u.1) 7 u.2.1) 5 u.2.2.1) 6 u.2.2.2) mf mg))) E hr hlk (v_309, x_6, v_307, (mi 6)) hw310 ⟨(by show 0 ≤ v_309.toInt; omega), (by show v_309.toInt ≤ (mi 2).toInt; omega), (show (((mi 8).toInt ≠ 0 → x_6.toInt = (mi 7).toInt ∧ v_309.toInt = (mi 4).toInt ∧ v_307.toInt = (mi 5).toInt ∧ (mi 6).toInt = (mi 6).toInt) ∧ ((mi 8).toInt = 0 → TKS (ti (mi 3)) (mf 1) (mi 2).toInt (mi 4).toInt x_6.toInt v_309.toInt v_307.toInt (mi 6).toInt)) from ⟨fun h => absurd (by omega) h, fun _ => (TKS_sgn hsk_21 ev_24 (by omega) (by omega) (ltr_f (by omega)) (dgt_f (by omega)) rfl (by omega) (Or.inl ⟨(six_6 (n := (sLen.getD 6 0 : Int)) (by decide +kernel)).mp (by have y := hp_302.mp (by omega); rw [(show v_297.toInt = v_24.toInt from by omega)] at y; exact y), by omega⟩))⟩)⟩ (Nat.le_of_ble_eq_true rfl) (Nat.le_of_ble_eq_true rfl) dX8_step_234
            · skip
              have hc_20 := eqE (a := v_19.toInt) (b := 10) rfl (by decide +kernel) c_20
              refine lv_aload_n (pc := 47) E.1 E.2.1 dX8_step_47 rfl (lv_at hl9 0 rfl) ?_
              refine lv_dup (pc := 48) E.1 E.2.1 dX8_step_48 rfl ?_
              refine x_get (pc := 49) (T := TX8) (N := 9) (ci := 8) (v := .int x_6) E hw8 inX8 0 3 q_541 rfl rfl (by decide) rfl rfl dX8_step_49 ?_
              refine lv_iconst (pc := 52) (v := 1) E.1 E.2.1 dX8_step_52 (by decide +kernel) ?_
              refine lv_iadd (pc := 53) E.1 E.2.1 dX8_step_53 ?_
              refine lv_topi (fun v_311 ev_311 => ?_)
              have hv_311 : v_311.toInt = x_6.toInt + 1 := by rw [ev_311]; exact addE rfl (by decide +kernel) (by omega)
              refine x_put (pc := 54) (T := TX8) (N := 9) (ci := 8) (ws' := (WZ_Tape cI cJ ad mr (upd mi 4 v_311) mf mg)) E hw8 inX8 tyX8_ok nmX8 0 3 q_541 rfl rfl (by decide) rfl rfl rfl rfl (Nat.le_of_ble_eq_true rfl) rfl dX8_step_54 (fun H locs hw312 => ?_)
              refine lv_goto (pc := 57) (tgt := 8) E.1 E.2.1 dX8_step_57 (by decide) ?_
              exact ih_7 v_311 _ _ _ ⟨(by show 0 ≤ v_311.toInt; omega), (by show v_311.toInt ≤ (mi 2).toInt; omega), (rnI_step hi_6_2 ev_19 (by omega) (by omega) (spc_t (by omega)) (m := v_311.toInt) (by omega))⟩ (by omega) hw312 (lv_sub hl9 [0] rfl)
    exact loop_5 (Int.toNat ((mi 2).toInt - (mi 4).toInt) + 1) (mi 4) _ _ _ ⟨(by show 0 ≤ (mi 4).toInt; omega), (by show (mi 4).toInt ≤ (mi 2).toInt; omega), rfl⟩ (by omega) hw1 (lv_sub hl3 [0] rfl)
  · skip
    have hc_4 := neE (a := (mi 8).toInt) (b := 0) rfl (by decide +kernel) c_4
    exact em_v (w1 := (fun (u : Int32 × Int32 × Int32 × Int32) => (WZ_Tape cI cJ ad mr (upd (upd (upd (upd mi 4 u.1) 7 u.2.1) 5 u.2.2.1) 6 u.2.2.2) mf mg))) E hr hlk ((mi 4), (mi 7), (mi 5), (mi 6)) hw1 ⟨(by show 0 ≤ (mi 4).toInt; omega), (by show (mi 4).toInt ≤ (mi 2).toInt; omega), (show (((mi 8).toInt ≠ 0 → (mi 7).toInt = (mi 7).toInt ∧ (mi 4).toInt = (mi 4).toInt ∧ (mi 5).toInt = (mi 5).toInt ∧ (mi 6).toInt = (mi 6).toInt) ∧ ((mi 8).toInt = 0 → TKS (ti (mi 3)) (mf 1) (mi 2).toInt (mi 4).toInt (mi 7).toInt (mi 4).toInt (mi 5).toInt (mi 6).toInt)) from ⟨fun _ => ⟨rfl, rfl, rfl, rfl⟩, fun h => absurd h (by omega)⟩)⟩ (Nat.le_of_ble_eq_true rfl) (Nat.le_of_ble_eq_true rfl) dX8_step_7

