set_option maxHeartbeats 4000000 in
set_option maxRecDepth 100000 in
theorem t_fill_leading (l : Launch) (D : va_G) (cI cJ : ClassId) (sz : Nat) (mr : Nat → Nat) (mi : Nat → Int32) (mf : Nat → Nat → Int32) (mg : Nat → Nat → Int64) (z_night : Int32) (z_neighbour : Int32) (z_left : Int32) (z_houses : Int32) (h0 : 0 ≤ z_night.toInt ∧ z_night.toInt ≤ 9) (h1 : (-1) ≤ z_neighbour.toInt ∧ z_neighbour.toInt ≤ 9) (h2 : 0 ≤ z_houses.toInt ∧ z_houses.toInt ≤ 10) : Met l yX9_fill (Cond.code yX9_fill cX9_fill 10 none :: GW) ({ frames := 1, cells := 0, slots := 0, locals := 40 } : Room) (va_Pc [.ref (mr 0), .ref (mr 1), .int z_night, .int z_neighbour, .int z_left, .int z_houses] (PW D cI cJ sz (WZ_Trail cI cJ mr mi mf mg) xT)) (va_Qv (fun (u : (Nat → Int64)) => True) (fun u => QW D cI cJ (va_A (WZ_Trail cI cJ mr mi mf mg) sz) ((fun (u : (Nat → Int64)) => (WZ_Trail cI cJ mr mi mf (va_up mg 1 u))) u)) (va_A (WZ_Trail cI cJ mr mi mf mg) sz)) 0 0 (va_A (WZ_Trail cI cJ mr mi mf mg) sz) := by
  refine mk_met (y := yX9_fill) (bytes := cX9_fill) (maxL := 10) (avs := [.ref (mr 0), .ref (mr 1), .int z_night, .int z_neighbour, .int z_left, .int z_houses]) (WS := (WZ_Trail cI cJ mr mi mf mg)) (Qf := fun A => va_Qv (fun (u : (Nat → Int64)) => True) (fun u => QW D cI cJ A ((fun (u : (Nat → Int64)) => (WZ_Trail cI cJ mr mi mf (va_up mg 1 u))) u)) A) (by decide) (Nat.le_of_ble_eq_true rfl) ?_
  intro p e s m below meth c A ls E hr hlk hnm hX hw1 hl2
  have hl3 : lv_has ls 10 [(0, .ref (mr 0)), (1, .ref (mr 1)), (2, .int z_night), (3, .int z_neighbour), (4, .int z_left), (5, .int z_houses)] := hl2
  refine lv_iconst (pc := 0) (v := 0) E.1 E.2.1 dX9_fill_0 (by decide +kernel) ?_
  refine lv_istore (pc := 1) (lv' := [(6, .int 0), (0, .ref (mr 0)), (1, .ref (mr 1)), (2, .int z_night), (3, .int z_neighbour), (4, .int z_left), (5, .int z_houses)]) E.1 E.2.1 dX9_fill_1 hl3 (by decide) rfl (fun ls hl4 => ?_)
  have loop_5 : ∀ (k : Nat) (x_6 : Int32) (g_7 : Nat → Int64) (H : Heap) (locs : List Loc) (ls : Array Slot), (0 ≤ x_6.toInt) ∧ (x_6.toInt ≤ z_houses.toInt) → z_houses.toInt - x_6.toInt < (k : Int) → WD D A s.heap (WZ_Trail cI cJ mr mi mf (va_up mg 1 g_7)) H locs → lv_has ls 10 [(6, .int x_6), (0, .ref (mr 0)), (1, .ref (mr 1)), (2, .int z_night), (3, .int z_neighbour), (4, .int z_left), (5, .int z_houses)] → W p l e ({ frames := 1, cells := 0, slots := 0, locals := 40 } : Room) s m ([.ref (mr 0), .ref (mr 1), .int z_night, .int z_neighbour, .int z_left, .int z_houses] : List Value).toArray below meth c H locs 0 0 (MQ below (va_Qv (fun (u : (Nat → Int64)) => True) (fun u => QW D cI cJ A ((fun (u : (Nat → Int64)) => (WZ_Trail cI cJ mr mi mf (va_up mg 1 u))) u)) A) ([.ref (mr 0), .ref (mr 1), .int z_night, .int z_neighbour, .int z_left, .int z_houses] : List Value).toArray s 0 0 A) (F0 m 3 ls []) := by
    intro k
    induction k with
    | zero =>
      intro x_6 g_7 _ _ _ hinv hm
      obtain ⟨hi_7_0, hi_7_1⟩ := hinv
      exact absurd hm (by omega)
    | succ k ih_8 =>
      intro x_6 g_7 H locs ls hinv hm hw9 hl10
      obtain ⟨hi_7_0, hi_7_1⟩ := hinv
      refine lv_iload (pc := 3) E.1 E.2.1 dX9_fill_3 (lv_at hl10 0 rfl) ?_
      refine lv_iload (pc := 5) E.1 E.2.1 dX9_fill_5 (lv_at hl10 6 rfl) ?_
      refine lv_icmp_ge (pc := 7) (tgt := 105) E.1 E.2.1 dX9_fill_7 (by decide) (fun c_11 => ?_) (fun c_11 => ?_)
      · skip
        have hc_11 := leE (a := z_houses.toInt) (b := x_6.toInt) rfl rfl c_11
        exact em_v (w1 := (fun (u : (Nat → Int64)) => (WZ_Trail cI cJ mr mi mf (va_up mg 1 u)))) E hr hlk g_7 hw9 trivial (Nat.le_of_ble_eq_true rfl) (Nat.le_of_ble_eq_true rfl) dX9_fill_105
      · skip
        have hc_11 := nleE (a := z_houses.toInt) (b := x_6.toInt) rfl rfl c_11
        refine lv_iload_n (pc := 10) E.1 E.2.1 dX9_fill_10 rfl (lv_at hl10 4 rfl) ?_
        refine lv_iconst (pc := 11) (v := (-1)) E.1 E.2.1 dX9_fill_11 (by decide +kernel) ?_
        refine lv_icmp_ne (pc := 12) (tgt := 19) E.1 E.2.1 dX9_fill_12 (by decide) (fun c_12 => ?_) (fun c_12 => ?_)
        · skip
          have hc_12 := neE (a := z_neighbour.toInt) (b := (-1)) rfl (by decide +kernel) c_12
          refine lv_lconst (pc := 19) (v := 0) E.1 E.2.1 dX9_fill_19 (by decide +kernel) ?_
          refine lv_lstore (pc := 20) (lv' := [(7, .long 0), (6, .int x_6), (0, .ref (mr 0)), (1, .ref (mr 1)), (2, .int z_night), (3, .int z_neighbour), (4, .int z_left), (5, .int z_houses)]) E.1 E.2.1 dX9_fill_20 hl10 (by decide) rfl (fun ls hl13 => ?_)
          refine lv_iconst (pc := 22) (v := 0) E.1 E.2.1 dX9_fill_22 (by decide +kernel) ?_
          refine lv_istore (pc := 23) (lv' := [(9, .int 0), (7, .long 0), (6, .int x_6), (0, .ref (mr 0)), (1, .ref (mr 1)), (2, .int z_night), (3, .int z_neighbour), (4, .int z_left), (5, .int z_houses)]) E.1 E.2.1 dX9_fill_23 hl13 (by decide) rfl (fun ls hl14 => ?_)
          have loop_15 : ∀ (k : Nat) (x_16 : Int32) (w_17 : Int64) (H : Heap) (locs : List Loc) (ls : Array Slot), (0 ≤ x_16.toInt) ∧ (x_16.toInt ≤ z_houses.toInt) → z_houses.toInt - x_16.toInt < (k : Int) → WD D A s.heap (WZ_Trail cI cJ mr mi mf (va_up mg 1 g_7)) H locs → lv_has ls 10 [(9, .int x_16), (7, .long w_17), (6, .int x_6), (0, .ref (mr 0)), (1, .ref (mr 1)), (2, .int z_night), (3, .int z_neighbour), (4, .int z_left), (5, .int z_houses)] → W p l e ({ frames := 1, cells := 0, slots := 0, locals := 40 } : Room) s m ([.ref (mr 0), .ref (mr 1), .int z_night, .int z_neighbour, .int z_left, .int z_houses] : List Value).toArray below meth c H locs 0 0 (MQ below (va_Qv (fun (u : (Nat → Int64)) => True) (fun u => QW D cI cJ A ((fun (u : (Nat → Int64)) => (WZ_Trail cI cJ mr mi mf (va_up mg 1 u))) u)) A) ([.ref (mr 0), .ref (mr 1), .int z_night, .int z_neighbour, .int z_left, .int z_houses] : List Value).toArray s 0 0 A) (F0 m 25 ls []) := by
            intro k
            induction k with
            | zero =>
              intro x_16 w_17 _ _ _ hinv hm
              obtain ⟨hi_17_0, hi_17_1⟩ := hinv
              exact absurd hm (by omega)
            | succ k ih_18 =>
              intro x_16 w_17 H locs ls hinv hm hw19 hl20
              obtain ⟨hi_17_0, hi_17_1⟩ := hinv
              refine lv_iload (pc := 25) E.1 E.2.1 dX9_fill_25 (lv_at hl20 0 rfl) ?_
              refine lv_iload (pc := 27) E.1 E.2.1 dX9_fill_27 (lv_at hl20 8 rfl) ?_
              refine lv_icmp_ge (pc := 29) (tgt := 73) E.1 E.2.1 dX9_fill_29 (by decide) (fun c_21 => ?_) (fun c_21 => ?_)
              · skip
                have hc_21 := leE (a := z_houses.toInt) (b := x_16.toInt) rfl rfl c_21
                refine lv_aload_n (pc := 73) E.1 E.2.1 dX9_fill_73 rfl (lv_at hl20 4 rfl) ?_
                refine lv_iload_n (pc := 74) E.1 E.2.1 dX9_fill_74 rfl (lv_at hl20 5 rfl) ?_
                refine lv_bipush (pc := 75) (v := 10) E.1 E.2.1 dX9_fill_75 (by decide +kernel) ?_
                refine lv_imul (pc := 77) E.1 E.2.1 dX9_fill_77 ?_
                refine lv_topi (fun v_22 ev_22 => ?_)
                have hv_22 : v_22.toInt = z_night.toInt * 10 := by rw [ev_22]; exact mulE rfl (by decide +kernel) (by omega)
                refine lv_iload (pc := 78) E.1 E.2.1 dX9_fill_78 (lv_at hl20 2 rfl) ?_
                refine lv_iadd (pc := 80) E.1 E.2.1 dX9_fill_80 ?_
                refine lv_topi (fun v_23 ev_23 => ?_)
                have hv_23 : v_23.toInt = v_22.toInt + x_6.toInt := by rw [ev_23]; exact addE rfl rfl (by omega)
                refine lv_iload (pc := 81) E.1 E.2.1 dX9_fill_81 (lv_at hl20 7 rfl) ?_
                refine lv_iload (pc := 83) E.1 E.2.1 dX9_fill_83 (lv_at hl20 2 rfl) ?_
                refine lv_ishr (pc := 85) E.1 E.2.1 dX9_fill_85 ?_
                refine lv_topi (fun v_24 ev_24 => ?_)
                refine lv_iconst (pc := 86) (v := 1) E.1 E.2.1 dX9_fill_86 (by decide +kernel) ?_
                refine lv_iand (pc := 87) E.1 E.2.1 dX9_fill_87 ?_
                refine lv_topi (fun v_25 ev_25 => ?_)
                refine lv_iconst (pc := 88) (v := 1) E.1 E.2.1 dX9_fill_88 (by decide +kernel) ?_
                refine lv_icmp_ne (pc := 89) (tgt := 97) E.1 E.2.1 dX9_fill_89 (by decide) (fun c_26 => ?_) (fun c_26 => ?_)
                · skip
                  have hc_26 := neE (a := v_25.toInt) (b := 1) rfl (by decide +kernel) c_26
                  refine lv_lconst (pc := 97) (v := 0) E.1 E.2.1 dX9_fill_97 (by decide +kernel) ?_
                  refine x_lastO (pc := 98) (f := g_7) (wf := fun g => (WZ_Trail cI cJ mr mi mf (va_up mg 1 g))) E hw19 1 rfl (inbE (a := v_23.toInt) rfl (by omega)) (fun _ => rfl) dX9_fill_98 (fun g_27 H locs hw28 => ?_)
                  obtain ⟨v_29, ev_29⟩ : ∃ z : Int32, x_6 + Int32.ofInt (1) = z := ⟨_, rfl⟩
                  have hv_29 : v_29.toInt = x_6.toInt + (1) := by rw [← ev_29]; exact incE rfl (by decide) (by omega)
                  refine lv_iinc (pc := 99) (v := v_29) (lv' := [(6, .int v_29), (9, .int x_16), (7, .long w_17), (0, .ref (mr 0)), (1, .ref (mr 1)), (2, .int z_night), (3, .int z_neighbour), (4, .int z_left), (5, .int z_houses)]) E.1 E.2.1 dX9_fill_99 hl20 (k := 2) rfl ev_29 (by decide) rfl (fun ls hl30 => ?_)
                  refine lv_goto (pc := 102) (tgt := 3) E.1 E.2.1 dX9_fill_102 (by decide) ?_
                  exact ih_8 v_29 g_27 _ _ _ ⟨(by show 0 ≤ v_29.toInt; omega), (by show v_29.toInt ≤ z_houses.toInt; omega)⟩ (by omega) hw28 (lv_sub hl30 [0, 3, 4, 5, 6, 7, 8] rfl)
                · skip
                  have hc_26 := eqE (a := v_25.toInt) (b := 1) rfl (by decide +kernel) c_26
                  refine lv_lload (pc := 92) E.1 E.2.1 dX9_fill_92 (lv_at hl20 1 rfl) ?_
                  refine lv_goto (pc := 94) (tgt := 98) E.1 E.2.1 dX9_fill_94 (by decide) ?_
                  refine x_lastO (pc := 98) (f := g_7) (wf := fun g => (WZ_Trail cI cJ mr mi mf (va_up mg 1 g))) E hw19 1 rfl (inbE (a := v_23.toInt) rfl (by omega)) (fun _ => rfl) dX9_fill_98 (fun g_31 H locs hw32 => ?_)
                  obtain ⟨v_33, ev_33⟩ : ∃ z : Int32, x_6 + Int32.ofInt (1) = z := ⟨_, rfl⟩
                  have hv_33 : v_33.toInt = x_6.toInt + (1) := by rw [← ev_33]; exact incE rfl (by decide) (by omega)
                  refine lv_iinc (pc := 99) (v := v_33) (lv' := [(6, .int v_33), (9, .int x_16), (7, .long w_17), (0, .ref (mr 0)), (1, .ref (mr 1)), (2, .int z_night), (3, .int z_neighbour), (4, .int z_left), (5, .int z_houses)]) E.1 E.2.1 dX9_fill_99 hl20 (k := 2) rfl ev_33 (by decide) rfl (fun ls hl34 => ?_)
                  refine lv_goto (pc := 102) (tgt := 3) E.1 E.2.1 dX9_fill_102 (by decide) ?_
                  exact ih_8 v_33 g_31 _ _ _ ⟨(by show 0 ≤ v_33.toInt; omega), (by show v_33.toInt ≤ z_houses.toInt; omega)⟩ (by omega) hw32 (lv_sub hl34 [0, 3, 4, 5, 6, 7, 8] rfl)
              · skip
                have hc_21 := nleE (a := z_houses.toInt) (b := x_16.toInt) rfl rfl c_21
                refine lv_iload_n (pc := 32) E.1 E.2.1 dX9_fill_32 rfl (lv_at hl20 6 rfl) ?_
                refine lv_iconst (pc := 33) (v := (-1)) E.1 E.2.1 dX9_fill_33 (by decide +kernel) ?_
                refine lv_icmp_eq (pc := 34) (tgt := 73) E.1 E.2.1 dX9_fill_34 (by decide) (fun c_35 => absurd c_35 (mneE (a := z_neighbour.toInt) (b := (-1)) rfl (by decide +kernel) (by omega))) (fun _ => ?_)
                refine lv_aload_n (pc := 37) E.1 E.2.1 dX9_fill_37 rfl (lv_at hl20 3 rfl) ?_
                refine x_get (pc := 38) (T := TX9) (N := 3) (ci := 9) (v := .ref (mr 3)) E hw19 inX9 0 2 q_596 rfl rfl (by decide) rfl rfl dX9_fill_38 ?_
                refine lv_iload (pc := 41) E.1 E.2.1 dX9_fill_41 (lv_at hl20 2 rfl) ?_
                refine x_iald (pc := 43) (f := (mf 3)) E hw19 3 rfl (inbE (a := x_6.toInt) rfl (by omega)) dX9_fill_43 ?_
                refine lv_topi (fun v_36 ev_36 => ?_)
                refine lv_iload (pc := 44) E.1 E.2.1 dX9_fill_44 (lv_at hl20 0 rfl) ?_
                refine lv_ishr (pc := 46) E.1 E.2.1 dX9_fill_46 ?_
                refine lv_topi (fun v_37 ev_37 => ?_)
                refine lv_iconst (pc := 47) (v := 1) E.1 E.2.1 dX9_fill_47 (by decide +kernel) ?_
                refine lv_iand (pc := 48) E.1 E.2.1 dX9_fill_48 ?_
                refine lv_topi (fun v_38 ev_38 => ?_)
                refine lv_iconst (pc := 49) (v := 1) E.1 E.2.1 dX9_fill_49 (by decide +kernel) ?_
                refine lv_icmp_ne (pc := 50) (tgt := 67) E.1 E.2.1 dX9_fill_50 (by decide) (fun c_39 => ?_) (fun c_39 => ?_)
                · skip
                  have hc_39 := neE (a := v_38.toInt) (b := 1) rfl (by decide +kernel) c_39
                  obtain ⟨v_40, ev_40⟩ : ∃ z : Int32, x_16 + Int32.ofInt (1) = z := ⟨_, rfl⟩
                  have hv_40 : v_40.toInt = x_16.toInt + (1) := by rw [← ev_40]; exact incE rfl (by decide) (by omega)
                  refine lv_iinc (pc := 67) (v := v_40) (lv' := [(9, .int v_40), (7, .long w_17), (6, .int x_6), (0, .ref (mr 0)), (1, .ref (mr 1)), (2, .int z_night), (3, .int z_neighbour), (4, .int z_left), (5, .int z_houses)]) E.1 E.2.1 dX9_fill_67 hl20 (k := 0) rfl ev_40 (by decide) rfl (fun ls hl41 => ?_)
                  refine lv_goto (pc := 70) (tgt := 25) E.1 E.2.1 dX9_fill_70 (by decide) ?_
                  exact ih_18 v_40 w_17 _ _ _ ⟨(by show 0 ≤ v_40.toInt; omega), (by show v_40.toInt ≤ z_houses.toInt; omega)⟩ (by omega) hw19 (lv_sub hl41 [0, 1, 2, 3, 4, 5, 6, 7, 8] rfl)
                · skip
                  have hc_39 := eqE (a := v_38.toInt) (b := 1) rfl (by decide +kernel) c_39
                  refine lv_lload (pc := 53) E.1 E.2.1 dX9_fill_53 (lv_at hl20 1 rfl) ?_
                  refine lv_aload_n (pc := 55) E.1 E.2.1 dX9_fill_55 rfl (lv_at hl20 4 rfl) ?_
                  refine lv_iload_n (pc := 56) E.1 E.2.1 dX9_fill_56 rfl (lv_at hl20 6 rfl) ?_
                  refine lv_bipush (pc := 57) (v := 10) E.1 E.2.1 dX9_fill_57 (by decide +kernel) ?_
                  refine lv_imul (pc := 59) E.1 E.2.1 dX9_fill_59 ?_
                  refine lv_topi (fun v_42 ev_42 => ?_)
                  have hv_42 : v_42.toInt = z_neighbour.toInt * 10 := by rw [ev_42]; exact mulE rfl (by decide +kernel) (by omega)
                  refine lv_iload (pc := 60) E.1 E.2.1 dX9_fill_60 (lv_at hl20 0 rfl) ?_
                  refine lv_iadd (pc := 62) E.1 E.2.1 dX9_fill_62 ?_
                  refine lv_topi (fun v_43 ev_43 => ?_)
                  have hv_43 : v_43.toInt = v_42.toInt + x_16.toInt := by rw [ev_43]; exact addE rfl rfl (by omega)
                  refine x_lald (pc := 63) (f := g_7) E hw19 1 rfl (inbE (a := v_43.toInt) rfl (by omega)) dX9_fill_63 (fun w_44 => ?_)
                  refine lv_ladd (pc := 64) E.1 E.2.1 dX9_fill_64 ?_
                  refine lv_topl (fun w_45 ew_45 => ?_)
                  refine lv_lstore (pc := 65) (lv' := [(7, .long w_45), (9, .int x_16), (6, .int x_6), (0, .ref (mr 0)), (1, .ref (mr 1)), (2, .int z_night), (3, .int z_neighbour), (4, .int z_left), (5, .int z_houses)]) E.1 E.2.1 dX9_fill_65 hl20 (by decide) rfl (fun ls hl46 => ?_)
                  obtain ⟨v_47, ev_47⟩ : ∃ z : Int32, x_16 + Int32.ofInt (1) = z := ⟨_, rfl⟩
                  have hv_47 : v_47.toInt = x_16.toInt + (1) := by rw [← ev_47]; exact incE rfl (by decide) (by omega)
                  refine lv_iinc (pc := 67) (v := v_47) (lv' := [(9, .int v_47), (7, .long w_45), (6, .int x_6), (0, .ref (mr 0)), (1, .ref (mr 1)), (2, .int z_night), (3, .int z_neighbour), (4, .int z_left), (5, .int z_houses)]) E.1 E.2.1 dX9_fill_67 hl46 (k := 1) rfl ev_47 (by decide) rfl (fun ls hl48 => ?_)
                  refine lv_goto (pc := 70) (tgt := 25) E.1 E.2.1 dX9_fill_70 (by decide) ?_
                  exact ih_18 v_47 w_45 _ _ _ ⟨(by show 0 ≤ v_47.toInt; omega), (by show v_47.toInt ≤ z_houses.toInt; omega)⟩ (by omega) hw19 (lv_sub hl48 [0, 1, 2, 3, 4, 5, 6, 7, 8] rfl)
          exact loop_15 (Int.toNat (z_houses.toInt - 0) + 1) 0 0 _ _ _ ⟨(by show 0 ≤ (0 : Int32).toInt; have k_0 : (0 : Int32).toInt = 0 := (by decide +kernel); omega), (by show (0 : Int32).toInt ≤ z_houses.toInt; have k_0 : (0 : Int32).toInt = 0 := (by decide +kernel); omega)⟩ (by have k_0 : (0 : Int32).toInt = 0 := (by decide +kernel); omega) hw9 (lv_sub hl14 [0, 1, 2, 3, 4, 5, 6, 7, 8] rfl)
        · skip
          have hc_12 := eqE (a := z_neighbour.toInt) (b := (-1)) rfl (by decide +kernel) c_12
          refine lv_lconst (pc := 15) (v := 1) E.1 E.2.1 dX9_fill_15 (by decide +kernel) ?_
          refine lv_goto (pc := 16) (tgt := 20) E.1 E.2.1 dX9_fill_16 (by decide) ?_
          refine lv_lstore (pc := 20) (lv' := [(7, .long 1), (6, .int x_6), (0, .ref (mr 0)), (1, .ref (mr 1)), (2, .int z_night), (3, .int z_neighbour), (4, .int z_left), (5, .int z_houses)]) E.1 E.2.1 dX9_fill_20 hl10 (by decide) rfl (fun ls hl49 => ?_)
          refine lv_iconst (pc := 22) (v := 0) E.1 E.2.1 dX9_fill_22 (by decide +kernel) ?_
          refine lv_istore (pc := 23) (lv' := [(9, .int 0), (7, .long 1), (6, .int x_6), (0, .ref (mr 0)), (1, .ref (mr 1)), (2, .int z_night), (3, .int z_neighbour), (4, .int z_left), (5, .int z_houses)]) E.1 E.2.1 dX9_fill_23 hl49 (by decide) rfl (fun ls hl50 => ?_)
          have loop_51 : ∀ (k : Nat) (x_52 : Int32) (w_53 : Int64) (H : Heap) (locs : List Loc) (ls : Array Slot), (0 ≤ x_52.toInt) ∧ (x_52.toInt ≤ z_houses.toInt) → z_houses.toInt - x_52.toInt < (k : Int) → WD D A s.heap (WZ_Trail cI cJ mr mi mf (va_up mg 1 g_7)) H locs → lv_has ls 10 [(9, .int x_52), (7, .long w_53), (6, .int x_6), (0, .ref (mr 0)), (1, .ref (mr 1)), (2, .int z_night), (3, .int z_neighbour), (4, .int z_left), (5, .int z_houses)] → W p l e ({ frames := 1, cells := 0, slots := 0, locals := 40 } : Room) s m ([.ref (mr 0), .ref (mr 1), .int z_night, .int z_neighbour, .int z_left, .int z_houses] : List Value).toArray below meth c H locs 0 0 (MQ below (va_Qv (fun (u : (Nat → Int64)) => True) (fun u => QW D cI cJ A ((fun (u : (Nat → Int64)) => (WZ_Trail cI cJ mr mi mf (va_up mg 1 u))) u)) A) ([.ref (mr 0), .ref (mr 1), .int z_night, .int z_neighbour, .int z_left, .int z_houses] : List Value).toArray s 0 0 A) (F0 m 25 ls []) := by
            intro k
            induction k with
            | zero =>
              intro x_52 w_53 _ _ _ hinv hm
              obtain ⟨hi_53_0, hi_53_1⟩ := hinv
              exact absurd hm (by omega)
            | succ k ih_54 =>
              intro x_52 w_53 H locs ls hinv hm hw55 hl56
              obtain ⟨hi_53_0, hi_53_1⟩ := hinv
              refine lv_iload (pc := 25) E.1 E.2.1 dX9_fill_25 (lv_at hl56 0 rfl) ?_
              refine lv_iload (pc := 27) E.1 E.2.1 dX9_fill_27 (lv_at hl56 8 rfl) ?_
              refine lv_icmp_ge (pc := 29) (tgt := 73) E.1 E.2.1 dX9_fill_29 (by decide) (fun c_57 => ?_) (fun c_57 => ?_)
              · skip
                have hc_57 := leE (a := z_houses.toInt) (b := x_52.toInt) rfl rfl c_57
                refine lv_aload_n (pc := 73) E.1 E.2.1 dX9_fill_73 rfl (lv_at hl56 4 rfl) ?_
                refine lv_iload_n (pc := 74) E.1 E.2.1 dX9_fill_74 rfl (lv_at hl56 5 rfl) ?_
                refine lv_bipush (pc := 75) (v := 10) E.1 E.2.1 dX9_fill_75 (by decide +kernel) ?_
                refine lv_imul (pc := 77) E.1 E.2.1 dX9_fill_77 ?_
                refine lv_topi (fun v_58 ev_58 => ?_)
                have hv_58 : v_58.toInt = z_night.toInt * 10 := by rw [ev_58]; exact mulE rfl (by decide +kernel) (by omega)
                refine lv_iload (pc := 78) E.1 E.2.1 dX9_fill_78 (lv_at hl56 2 rfl) ?_
                refine lv_iadd (pc := 80) E.1 E.2.1 dX9_fill_80 ?_
                refine lv_topi (fun v_59 ev_59 => ?_)
                have hv_59 : v_59.toInt = v_58.toInt + x_6.toInt := by rw [ev_59]; exact addE rfl rfl (by omega)
                refine lv_iload (pc := 81) E.1 E.2.1 dX9_fill_81 (lv_at hl56 7 rfl) ?_
                refine lv_iload (pc := 83) E.1 E.2.1 dX9_fill_83 (lv_at hl56 2 rfl) ?_
                refine lv_ishr (pc := 85) E.1 E.2.1 dX9_fill_85 ?_
                refine lv_topi (fun v_60 ev_60 => ?_)
                refine lv_iconst (pc := 86) (v := 1) E.1 E.2.1 dX9_fill_86 (by decide +kernel) ?_
                refine lv_iand (pc := 87) E.1 E.2.1 dX9_fill_87 ?_
                refine lv_topi (fun v_61 ev_61 => ?_)
                refine lv_iconst (pc := 88) (v := 1) E.1 E.2.1 dX9_fill_88 (by decide +kernel) ?_
                refine lv_icmp_ne (pc := 89) (tgt := 97) E.1 E.2.1 dX9_fill_89 (by decide) (fun c_62 => ?_) (fun c_62 => ?_)
                · skip
                  have hc_62 := neE (a := v_61.toInt) (b := 1) rfl (by decide +kernel) c_62
                  refine lv_lconst (pc := 97) (v := 0) E.1 E.2.1 dX9_fill_97 (by decide +kernel) ?_
                  refine x_lastO (pc := 98) (f := g_7) (wf := fun g => (WZ_Trail cI cJ mr mi mf (va_up mg 1 g))) E hw55 1 rfl (inbE (a := v_59.toInt) rfl (by omega)) (fun _ => rfl) dX9_fill_98 (fun g_63 H locs hw64 => ?_)
                  obtain ⟨v_65, ev_65⟩ : ∃ z : Int32, x_6 + Int32.ofInt (1) = z := ⟨_, rfl⟩
                  have hv_65 : v_65.toInt = x_6.toInt + (1) := by rw [← ev_65]; exact incE rfl (by decide) (by omega)
                  refine lv_iinc (pc := 99) (v := v_65) (lv' := [(6, .int v_65), (9, .int x_52), (7, .long w_53), (0, .ref (mr 0)), (1, .ref (mr 1)), (2, .int z_night), (3, .int z_neighbour), (4, .int z_left), (5, .int z_houses)]) E.1 E.2.1 dX9_fill_99 hl56 (k := 2) rfl ev_65 (by decide) rfl (fun ls hl66 => ?_)
                  refine lv_goto (pc := 102) (tgt := 3) E.1 E.2.1 dX9_fill_102 (by decide) ?_
                  exact ih_8 v_65 g_63 _ _ _ ⟨(by show 0 ≤ v_65.toInt; omega), (by show v_65.toInt ≤ z_houses.toInt; omega)⟩ (by omega) hw64 (lv_sub hl66 [0, 3, 4, 5, 6, 7, 8] rfl)
                · skip
                  have hc_62 := eqE (a := v_61.toInt) (b := 1) rfl (by decide +kernel) c_62
                  refine lv_lload (pc := 92) E.1 E.2.1 dX9_fill_92 (lv_at hl56 1 rfl) ?_
                  refine lv_goto (pc := 94) (tgt := 98) E.1 E.2.1 dX9_fill_94 (by decide) ?_
                  refine x_lastO (pc := 98) (f := g_7) (wf := fun g => (WZ_Trail cI cJ mr mi mf (va_up mg 1 g))) E hw55 1 rfl (inbE (a := v_59.toInt) rfl (by omega)) (fun _ => rfl) dX9_fill_98 (fun g_67 H locs hw68 => ?_)
                  obtain ⟨v_69, ev_69⟩ : ∃ z : Int32, x_6 + Int32.ofInt (1) = z := ⟨_, rfl⟩
                  have hv_69 : v_69.toInt = x_6.toInt + (1) := by rw [← ev_69]; exact incE rfl (by decide) (by omega)
                  refine lv_iinc (pc := 99) (v := v_69) (lv' := [(6, .int v_69), (9, .int x_52), (7, .long w_53), (0, .ref (mr 0)), (1, .ref (mr 1)), (2, .int z_night), (3, .int z_neighbour), (4, .int z_left), (5, .int z_houses)]) E.1 E.2.1 dX9_fill_99 hl56 (k := 2) rfl ev_69 (by decide) rfl (fun ls hl70 => ?_)
                  refine lv_goto (pc := 102) (tgt := 3) E.1 E.2.1 dX9_fill_102 (by decide) ?_
                  exact ih_8 v_69 g_67 _ _ _ ⟨(by show 0 ≤ v_69.toInt; omega), (by show v_69.toInt ≤ z_houses.toInt; omega)⟩ (by omega) hw68 (lv_sub hl70 [0, 3, 4, 5, 6, 7, 8] rfl)
              · skip
                have hc_57 := nleE (a := z_houses.toInt) (b := x_52.toInt) rfl rfl c_57
                refine lv_iload_n (pc := 32) E.1 E.2.1 dX9_fill_32 rfl (lv_at hl56 6 rfl) ?_
                refine lv_iconst (pc := 33) (v := (-1)) E.1 E.2.1 dX9_fill_33 (by decide +kernel) ?_
                refine lv_icmp_eq (pc := 34) (tgt := 73) E.1 E.2.1 dX9_fill_34 (by decide) (fun _ => ?_) (fun c_71 => absurd (meqE (a := z_neighbour.toInt) (b := (-1)) rfl (by decide +kernel) (by omega)) c_71)
                refine lv_aload_n (pc := 73) E.1 E.2.1 dX9_fill_73 rfl (lv_at hl56 4 rfl) ?_
                refine lv_iload_n (pc := 74) E.1 E.2.1 dX9_fill_74 rfl (lv_at hl56 5 rfl) ?_
                refine lv_bipush (pc := 75) (v := 10) E.1 E.2.1 dX9_fill_75 (by decide +kernel) ?_
                refine lv_imul (pc := 77) E.1 E.2.1 dX9_fill_77 ?_
                refine lv_topi (fun v_72 ev_72 => ?_)
                have hv_72 : v_72.toInt = z_night.toInt * 10 := by rw [ev_72]; exact mulE rfl (by decide +kernel) (by omega)
                refine lv_iload (pc := 78) E.1 E.2.1 dX9_fill_78 (lv_at hl56 2 rfl) ?_
                refine lv_iadd (pc := 80) E.1 E.2.1 dX9_fill_80 ?_
                refine lv_topi (fun v_73 ev_73 => ?_)
                have hv_73 : v_73.toInt = v_72.toInt + x_6.toInt := by rw [ev_73]; exact addE rfl rfl (by omega)
                refine lv_iload (pc := 81) E.1 E.2.1 dX9_fill_81 (lv_at hl56 7 rfl) ?_
                refine lv_iload (pc := 83) E.1 E.2.1 dX9_fill_83 (lv_at hl56 2 rfl) ?_
                refine lv_ishr (pc := 85) E.1 E.2.1 dX9_fill_85 ?_
                refine lv_topi (fun v_74 ev_74 => ?_)
                refine lv_iconst (pc := 86) (v := 1) E.1 E.2.1 dX9_fill_86 (by decide +kernel) ?_
                refine lv_iand (pc := 87) E.1 E.2.1 dX9_fill_87 ?_
                refine lv_topi (fun v_75 ev_75 => ?_)
                refine lv_iconst (pc := 88) (v := 1) E.1 E.2.1 dX9_fill_88 (by decide +kernel) ?_
                refine lv_icmp_ne (pc := 89) (tgt := 97) E.1 E.2.1 dX9_fill_89 (by decide) (fun c_76 => ?_) (fun c_76 => ?_)
                · skip
                  have hc_76 := neE (a := v_75.toInt) (b := 1) rfl (by decide +kernel) c_76
                  refine lv_lconst (pc := 97) (v := 0) E.1 E.2.1 dX9_fill_97 (by decide +kernel) ?_
                  refine x_lastO (pc := 98) (f := g_7) (wf := fun g => (WZ_Trail cI cJ mr mi mf (va_up mg 1 g))) E hw55 1 rfl (inbE (a := v_73.toInt) rfl (by omega)) (fun _ => rfl) dX9_fill_98 (fun g_77 H locs hw78 => ?_)
                  obtain ⟨v_79, ev_79⟩ : ∃ z : Int32, x_6 + Int32.ofInt (1) = z := ⟨_, rfl⟩
                  have hv_79 : v_79.toInt = x_6.toInt + (1) := by rw [← ev_79]; exact incE rfl (by decide) (by omega)
                  refine lv_iinc (pc := 99) (v := v_79) (lv' := [(6, .int v_79), (9, .int x_52), (7, .long w_53), (0, .ref (mr 0)), (1, .ref (mr 1)), (2, .int z_night), (3, .int z_neighbour), (4, .int z_left), (5, .int z_houses)]) E.1 E.2.1 dX9_fill_99 hl56 (k := 2) rfl ev_79 (by decide) rfl (fun ls hl80 => ?_)
                  refine lv_goto (pc := 102) (tgt := 3) E.1 E.2.1 dX9_fill_102 (by decide) ?_
                  exact ih_8 v_79 g_77 _ _ _ ⟨(by show 0 ≤ v_79.toInt; omega), (by show v_79.toInt ≤ z_houses.toInt; omega)⟩ (by omega) hw78 (lv_sub hl80 [0, 3, 4, 5, 6, 7, 8] rfl)
                · skip
                  have hc_76 := eqE (a := v_75.toInt) (b := 1) rfl (by decide +kernel) c_76
                  refine lv_lload (pc := 92) E.1 E.2.1 dX9_fill_92 (lv_at hl56 1 rfl) ?_
                  refine lv_goto (pc := 94) (tgt := 98) E.1 E.2.1 dX9_fill_94 (by decide) ?_
                  refine x_lastO (pc := 98) (f := g_7) (wf := fun g => (WZ_Trail cI cJ mr mi mf (va_up mg 1 g))) E hw55 1 rfl (inbE (a := v_73.toInt) rfl (by omega)) (fun _ => rfl) dX9_fill_98 (fun g_81 H locs hw82 => ?_)
                  obtain ⟨v_83, ev_83⟩ : ∃ z : Int32, x_6 + Int32.ofInt (1) = z := ⟨_, rfl⟩
                  have hv_83 : v_83.toInt = x_6.toInt + (1) := by rw [← ev_83]; exact incE rfl (by decide) (by omega)
                  refine lv_iinc (pc := 99) (v := v_83) (lv' := [(6, .int v_83), (9, .int x_52), (7, .long w_53), (0, .ref (mr 0)), (1, .ref (mr 1)), (2, .int z_night), (3, .int z_neighbour), (4, .int z_left), (5, .int z_houses)]) E.1 E.2.1 dX9_fill_99 hl56 (k := 2) rfl ev_83 (by decide) rfl (fun ls hl84 => ?_)
                  refine lv_goto (pc := 102) (tgt := 3) E.1 E.2.1 dX9_fill_102 (by decide) ?_
                  exact ih_8 v_83 g_81 _ _ _ ⟨(by show 0 ≤ v_83.toInt; omega), (by show v_83.toInt ≤ z_houses.toInt; omega)⟩ (by omega) hw82 (lv_sub hl84 [0, 3, 4, 5, 6, 7, 8] rfl)
          exact loop_51 (Int.toNat (z_houses.toInt - 0) + 1) 0 1 _ _ _ ⟨(by show 0 ≤ (0 : Int32).toInt; have k_0 : (0 : Int32).toInt = 0 := (by decide +kernel); omega), (by show (0 : Int32).toInt ≤ z_houses.toInt; have k_0 : (0 : Int32).toInt = 0 := (by decide +kernel); omega)⟩ (by have k_0 : (0 : Int32).toInt = 0 := (by decide +kernel); omega) hw9 (lv_sub hl50 [0, 1, 2, 3, 4, 5, 6, 7, 8] rfl)
  exact loop_5 (Int.toNat (z_houses.toInt - 0) + 1) 0 (mg 1) _ _ _ ⟨(by show 0 ≤ (0 : Int32).toInt; have k_0 : (0 : Int32).toInt = 0 := (by decide +kernel); omega), (by show (0 : Int32).toInt ≤ z_houses.toInt; have k_0 : (0 : Int32).toInt = 0 := (by decide +kernel); omega)⟩ (by have k_0 : (0 : Int32).toInt = 0 := (by decide +kernel); omega) hw1 (lv_sub hl4 [0, 1, 2, 3, 4, 5, 6] rfl)
set_option maxHeartbeats 4000000 in
set_option maxRecDepth 100000 in
theorem t_fill_going (l : Launch) (D : va_G) (cI cJ : ClassId) (sz : Nat) (mr : Nat → Nat) (mi : Nat → Int32) (mf : Nat → Nat → Int32) (mg : Nat → Nat → Int64) (z_night : Int32) (z_neighbour : Int32) (z_left : Int32) (z_houses : Int32) (h0 : 0 ≤ z_night.toInt ∧ z_night.toInt ≤ 9) (h1 : (-1) ≤ z_neighbour.toInt ∧ z_neighbour.toInt ≤ 9) (h2 : 0 ≤ z_houses.toInt ∧ z_houses.toInt ≤ 10) : Met l yX9_fill (Cond.code yX9_fill cX9_fill 10 none :: GW) ({ frames := 1, cells := 0, slots := 0, locals := 40 } : Room) (va_Pc [.ref (mr 0), .ref (mr 2), .int z_night, .int z_neighbour, .int z_left, .int z_houses] (PW D cI cJ sz (WZ_Trail cI cJ mr mi mf mg) xT)) (va_Qv (fun (u : (Nat → Int64)) => True) (fun u => QW D cI cJ (va_A (WZ_Trail cI cJ mr mi mf mg) sz) ((fun (u : (Nat → Int64)) => (WZ_Trail cI cJ mr mi mf (va_up mg 2 u))) u)) (va_A (WZ_Trail cI cJ mr mi mf mg) sz)) 0 0 (va_A (WZ_Trail cI cJ mr mi mf mg) sz) := by
  refine mk_met (y := yX9_fill) (bytes := cX9_fill) (maxL := 10) (avs := [.ref (mr 0), .ref (mr 2), .int z_night, .int z_neighbour, .int z_left, .int z_houses]) (WS := (WZ_Trail cI cJ mr mi mf mg)) (Qf := fun A => va_Qv (fun (u : (Nat → Int64)) => True) (fun u => QW D cI cJ A ((fun (u : (Nat → Int64)) => (WZ_Trail cI cJ mr mi mf (va_up mg 2 u))) u)) A) (by decide) (Nat.le_of_ble_eq_true rfl) ?_
  intro p e s m below meth c A ls E hr hlk hnm hX hw1 hl2
  have hl3 : lv_has ls 10 [(0, .ref (mr 0)), (1, .ref (mr 2)), (2, .int z_night), (3, .int z_neighbour), (4, .int z_left), (5, .int z_houses)] := hl2
  refine lv_iconst (pc := 0) (v := 0) E.1 E.2.1 dX9_fill_0 (by decide +kernel) ?_
  refine lv_istore (pc := 1) (lv' := [(6, .int 0), (0, .ref (mr 0)), (1, .ref (mr 2)), (2, .int z_night), (3, .int z_neighbour), (4, .int z_left), (5, .int z_houses)]) E.1 E.2.1 dX9_fill_1 hl3 (by decide) rfl (fun ls hl4 => ?_)
  have loop_5 : ∀ (k : Nat) (x_6 : Int32) (g_7 : Nat → Int64) (H : Heap) (locs : List Loc) (ls : Array Slot), (0 ≤ x_6.toInt) ∧ (x_6.toInt ≤ z_houses.toInt) → z_houses.toInt - x_6.toInt < (k : Int) → WD D A s.heap (WZ_Trail cI cJ mr mi mf (va_up mg 2 g_7)) H locs → lv_has ls 10 [(6, .int x_6), (0, .ref (mr 0)), (1, .ref (mr 2)), (2, .int z_night), (3, .int z_neighbour), (4, .int z_left), (5, .int z_houses)] → W p l e ({ frames := 1, cells := 0, slots := 0, locals := 40 } : Room) s m ([.ref (mr 0), .ref (mr 2), .int z_night, .int z_neighbour, .int z_left, .int z_houses] : List Value).toArray below meth c H locs 0 0 (MQ below (va_Qv (fun (u : (Nat → Int64)) => True) (fun u => QW D cI cJ A ((fun (u : (Nat → Int64)) => (WZ_Trail cI cJ mr mi mf (va_up mg 2 u))) u)) A) ([.ref (mr 0), .ref (mr 2), .int z_night, .int z_neighbour, .int z_left, .int z_houses] : List Value).toArray s 0 0 A) (F0 m 3 ls []) := by
    intro k
    induction k with
    | zero =>
      intro x_6 g_7 _ _ _ hinv hm
      obtain ⟨hi_7_0, hi_7_1⟩ := hinv
      exact absurd hm (by omega)
    | succ k ih_8 =>
      intro x_6 g_7 H locs ls hinv hm hw9 hl10
      obtain ⟨hi_7_0, hi_7_1⟩ := hinv
      refine lv_iload (pc := 3) E.1 E.2.1 dX9_fill_3 (lv_at hl10 0 rfl) ?_
      refine lv_iload (pc := 5) E.1 E.2.1 dX9_fill_5 (lv_at hl10 6 rfl) ?_
      refine lv_icmp_ge (pc := 7) (tgt := 105) E.1 E.2.1 dX9_fill_7 (by decide) (fun c_11 => ?_) (fun c_11 => ?_)
      · skip
        have hc_11 := leE (a := z_houses.toInt) (b := x_6.toInt) rfl rfl c_11
        exact em_v (w1 := (fun (u : (Nat → Int64)) => (WZ_Trail cI cJ mr mi mf (va_up mg 2 u)))) E hr hlk g_7 hw9 trivial (Nat.le_of_ble_eq_true rfl) (Nat.le_of_ble_eq_true rfl) dX9_fill_105
      · skip
        have hc_11 := nleE (a := z_houses.toInt) (b := x_6.toInt) rfl rfl c_11
        refine lv_iload_n (pc := 10) E.1 E.2.1 dX9_fill_10 rfl (lv_at hl10 4 rfl) ?_
        refine lv_iconst (pc := 11) (v := (-1)) E.1 E.2.1 dX9_fill_11 (by decide +kernel) ?_
        refine lv_icmp_ne (pc := 12) (tgt := 19) E.1 E.2.1 dX9_fill_12 (by decide) (fun c_12 => ?_) (fun c_12 => ?_)
        · skip
          have hc_12 := neE (a := z_neighbour.toInt) (b := (-1)) rfl (by decide +kernel) c_12
          refine lv_lconst (pc := 19) (v := 0) E.1 E.2.1 dX9_fill_19 (by decide +kernel) ?_
          refine lv_lstore (pc := 20) (lv' := [(7, .long 0), (6, .int x_6), (0, .ref (mr 0)), (1, .ref (mr 2)), (2, .int z_night), (3, .int z_neighbour), (4, .int z_left), (5, .int z_houses)]) E.1 E.2.1 dX9_fill_20 hl10 (by decide) rfl (fun ls hl13 => ?_)
          refine lv_iconst (pc := 22) (v := 0) E.1 E.2.1 dX9_fill_22 (by decide +kernel) ?_
          refine lv_istore (pc := 23) (lv' := [(9, .int 0), (7, .long 0), (6, .int x_6), (0, .ref (mr 0)), (1, .ref (mr 2)), (2, .int z_night), (3, .int z_neighbour), (4, .int z_left), (5, .int z_houses)]) E.1 E.2.1 dX9_fill_23 hl13 (by decide) rfl (fun ls hl14 => ?_)
          have loop_15 : ∀ (k : Nat) (x_16 : Int32) (w_17 : Int64) (H : Heap) (locs : List Loc) (ls : Array Slot), (0 ≤ x_16.toInt) ∧ (x_16.toInt ≤ z_houses.toInt) → z_houses.toInt - x_16.toInt < (k : Int) → WD D A s.heap (WZ_Trail cI cJ mr mi mf (va_up mg 2 g_7)) H locs → lv_has ls 10 [(9, .int x_16), (7, .long w_17), (6, .int x_6), (0, .ref (mr 0)), (1, .ref (mr 2)), (2, .int z_night), (3, .int z_neighbour), (4, .int z_left), (5, .int z_houses)] → W p l e ({ frames := 1, cells := 0, slots := 0, locals := 40 } : Room) s m ([.ref (mr 0), .ref (mr 2), .int z_night, .int z_neighbour, .int z_left, .int z_houses] : List Value).toArray below meth c H locs 0 0 (MQ below (va_Qv (fun (u : (Nat → Int64)) => True) (fun u => QW D cI cJ A ((fun (u : (Nat → Int64)) => (WZ_Trail cI cJ mr mi mf (va_up mg 2 u))) u)) A) ([.ref (mr 0), .ref (mr 2), .int z_night, .int z_neighbour, .int z_left, .int z_houses] : List Value).toArray s 0 0 A) (F0 m 25 ls []) := by
            intro k
            induction k with
            | zero =>
              intro x_16 w_17 _ _ _ hinv hm
              obtain ⟨hi_17_0, hi_17_1⟩ := hinv
              exact absurd hm (by omega)
            | succ k ih_18 =>
              intro x_16 w_17 H locs ls hinv hm hw19 hl20
              obtain ⟨hi_17_0, hi_17_1⟩ := hinv
              refine lv_iload (pc := 25) E.1 E.2.1 dX9_fill_25 (lv_at hl20 0 rfl) ?_
              refine lv_iload (pc := 27) E.1 E.2.1 dX9_fill_27 (lv_at hl20 8 rfl) ?_
              refine lv_icmp_ge (pc := 29) (tgt := 73) E.1 E.2.1 dX9_fill_29 (by decide) (fun c_21 => ?_) (fun c_21 => ?_)
              · skip
                have hc_21 := leE (a := z_houses.toInt) (b := x_16.toInt) rfl rfl c_21
                refine lv_aload_n (pc := 73) E.1 E.2.1 dX9_fill_73 rfl (lv_at hl20 4 rfl) ?_
                refine lv_iload_n (pc := 74) E.1 E.2.1 dX9_fill_74 rfl (lv_at hl20 5 rfl) ?_
                refine lv_bipush (pc := 75) (v := 10) E.1 E.2.1 dX9_fill_75 (by decide +kernel) ?_
                refine lv_imul (pc := 77) E.1 E.2.1 dX9_fill_77 ?_
                refine lv_topi (fun v_22 ev_22 => ?_)
                have hv_22 : v_22.toInt = z_night.toInt * 10 := by rw [ev_22]; exact mulE rfl (by decide +kernel) (by omega)
                refine lv_iload (pc := 78) E.1 E.2.1 dX9_fill_78 (lv_at hl20 2 rfl) ?_
                refine lv_iadd (pc := 80) E.1 E.2.1 dX9_fill_80 ?_
                refine lv_topi (fun v_23 ev_23 => ?_)
                have hv_23 : v_23.toInt = v_22.toInt + x_6.toInt := by rw [ev_23]; exact addE rfl rfl (by omega)
                refine lv_iload (pc := 81) E.1 E.2.1 dX9_fill_81 (lv_at hl20 7 rfl) ?_
                refine lv_iload (pc := 83) E.1 E.2.1 dX9_fill_83 (lv_at hl20 2 rfl) ?_
                refine lv_ishr (pc := 85) E.1 E.2.1 dX9_fill_85 ?_
                refine lv_topi (fun v_24 ev_24 => ?_)
                refine lv_iconst (pc := 86) (v := 1) E.1 E.2.1 dX9_fill_86 (by decide +kernel) ?_
                refine lv_iand (pc := 87) E.1 E.2.1 dX9_fill_87 ?_
                refine lv_topi (fun v_25 ev_25 => ?_)
                refine lv_iconst (pc := 88) (v := 1) E.1 E.2.1 dX9_fill_88 (by decide +kernel) ?_
                refine lv_icmp_ne (pc := 89) (tgt := 97) E.1 E.2.1 dX9_fill_89 (by decide) (fun c_26 => ?_) (fun c_26 => ?_)
                · skip
                  have hc_26 := neE (a := v_25.toInt) (b := 1) rfl (by decide +kernel) c_26
                  refine lv_lconst (pc := 97) (v := 0) E.1 E.2.1 dX9_fill_97 (by decide +kernel) ?_
                  refine x_lastO (pc := 98) (f := g_7) (wf := fun g => (WZ_Trail cI cJ mr mi mf (va_up mg 2 g))) E hw19 2 rfl (inbE (a := v_23.toInt) rfl (by omega)) (fun _ => rfl) dX9_fill_98 (fun g_27 H locs hw28 => ?_)
                  obtain ⟨v_29, ev_29⟩ : ∃ z : Int32, x_6 + Int32.ofInt (1) = z := ⟨_, rfl⟩
                  have hv_29 : v_29.toInt = x_6.toInt + (1) := by rw [← ev_29]; exact incE rfl (by decide) (by omega)
                  refine lv_iinc (pc := 99) (v := v_29) (lv' := [(6, .int v_29), (9, .int x_16), (7, .long w_17), (0, .ref (mr 0)), (1, .ref (mr 2)), (2, .int z_night), (3, .int z_neighbour), (4, .int z_left), (5, .int z_houses)]) E.1 E.2.1 dX9_fill_99 hl20 (k := 2) rfl ev_29 (by decide) rfl (fun ls hl30 => ?_)
                  refine lv_goto (pc := 102) (tgt := 3) E.1 E.2.1 dX9_fill_102 (by decide) ?_
                  exact ih_8 v_29 g_27 _ _ _ ⟨(by show 0 ≤ v_29.toInt; omega), (by show v_29.toInt ≤ z_houses.toInt; omega)⟩ (by omega) hw28 (lv_sub hl30 [0, 3, 4, 5, 6, 7, 8] rfl)
                · skip
                  have hc_26 := eqE (a := v_25.toInt) (b := 1) rfl (by decide +kernel) c_26
                  refine lv_lload (pc := 92) E.1 E.2.1 dX9_fill_92 (lv_at hl20 1 rfl) ?_
                  refine lv_goto (pc := 94) (tgt := 98) E.1 E.2.1 dX9_fill_94 (by decide) ?_
                  refine x_lastO (pc := 98) (f := g_7) (wf := fun g => (WZ_Trail cI cJ mr mi mf (va_up mg 2 g))) E hw19 2 rfl (inbE (a := v_23.toInt) rfl (by omega)) (fun _ => rfl) dX9_fill_98 (fun g_31 H locs hw32 => ?_)
                  obtain ⟨v_33, ev_33⟩ : ∃ z : Int32, x_6 + Int32.ofInt (1) = z := ⟨_, rfl⟩
                  have hv_33 : v_33.toInt = x_6.toInt + (1) := by rw [← ev_33]; exact incE rfl (by decide) (by omega)
                  refine lv_iinc (pc := 99) (v := v_33) (lv' := [(6, .int v_33), (9, .int x_16), (7, .long w_17), (0, .ref (mr 0)), (1, .ref (mr 2)), (2, .int z_night), (3, .int z_neighbour), (4, .int z_left), (5, .int z_houses)]) E.1 E.2.1 dX9_fill_99 hl20 (k := 2) rfl ev_33 (by decide) rfl (fun ls hl34 => ?_)
                  refine lv_goto (pc := 102) (tgt := 3) E.1 E.2.1 dX9_fill_102 (by decide) ?_
                  exact ih_8 v_33 g_31 _ _ _ ⟨(by show 0 ≤ v_33.toInt; omega), (by show v_33.toInt ≤ z_houses.toInt; omega)⟩ (by omega) hw32 (lv_sub hl34 [0, 3, 4, 5, 6, 7, 8] rfl)
              · skip
                have hc_21 := nleE (a := z_houses.toInt) (b := x_16.toInt) rfl rfl c_21
                refine lv_iload_n (pc := 32) E.1 E.2.1 dX9_fill_32 rfl (lv_at hl20 6 rfl) ?_
                refine lv_iconst (pc := 33) (v := (-1)) E.1 E.2.1 dX9_fill_33 (by decide +kernel) ?_
                refine lv_icmp_eq (pc := 34) (tgt := 73) E.1 E.2.1 dX9_fill_34 (by decide) (fun c_35 => absurd c_35 (mneE (a := z_neighbour.toInt) (b := (-1)) rfl (by decide +kernel) (by omega))) (fun _ => ?_)
                refine lv_aload_n (pc := 37) E.1 E.2.1 dX9_fill_37 rfl (lv_at hl20 3 rfl) ?_
                refine x_get (pc := 38) (T := TX9) (N := 3) (ci := 9) (v := .ref (mr 3)) E hw19 inX9 0 2 q_596 rfl rfl (by decide) rfl rfl dX9_fill_38 ?_
                refine lv_iload (pc := 41) E.1 E.2.1 dX9_fill_41 (lv_at hl20 2 rfl) ?_
                refine x_iald (pc := 43) (f := (mf 3)) E hw19 3 rfl (inbE (a := x_6.toInt) rfl (by omega)) dX9_fill_43 ?_
                refine lv_topi (fun v_36 ev_36 => ?_)
                refine lv_iload (pc := 44) E.1 E.2.1 dX9_fill_44 (lv_at hl20 0 rfl) ?_
                refine lv_ishr (pc := 46) E.1 E.2.1 dX9_fill_46 ?_
                refine lv_topi (fun v_37 ev_37 => ?_)
                refine lv_iconst (pc := 47) (v := 1) E.1 E.2.1 dX9_fill_47 (by decide +kernel) ?_
                refine lv_iand (pc := 48) E.1 E.2.1 dX9_fill_48 ?_
                refine lv_topi (fun v_38 ev_38 => ?_)
                refine lv_iconst (pc := 49) (v := 1) E.1 E.2.1 dX9_fill_49 (by decide +kernel) ?_
                refine lv_icmp_ne (pc := 50) (tgt := 67) E.1 E.2.1 dX9_fill_50 (by decide) (fun c_39 => ?_) (fun c_39 => ?_)
                · skip
                  have hc_39 := neE (a := v_38.toInt) (b := 1) rfl (by decide +kernel) c_39
                  obtain ⟨v_40, ev_40⟩ : ∃ z : Int32, x_16 + Int32.ofInt (1) = z := ⟨_, rfl⟩
                  have hv_40 : v_40.toInt = x_16.toInt + (1) := by rw [← ev_40]; exact incE rfl (by decide) (by omega)
                  refine lv_iinc (pc := 67) (v := v_40) (lv' := [(9, .int v_40), (7, .long w_17), (6, .int x_6), (0, .ref (mr 0)), (1, .ref (mr 2)), (2, .int z_night), (3, .int z_neighbour), (4, .int z_left), (5, .int z_houses)]) E.1 E.2.1 dX9_fill_67 hl20 (k := 0) rfl ev_40 (by decide) rfl (fun ls hl41 => ?_)
                  refine lv_goto (pc := 70) (tgt := 25) E.1 E.2.1 dX9_fill_70 (by decide) ?_
                  exact ih_18 v_40 w_17 _ _ _ ⟨(by show 0 ≤ v_40.toInt; omega), (by show v_40.toInt ≤ z_houses.toInt; omega)⟩ (by omega) hw19 (lv_sub hl41 [0, 1, 2, 3, 4, 5, 6, 7, 8] rfl)
                · skip
                  have hc_39 := eqE (a := v_38.toInt) (b := 1) rfl (by decide +kernel) c_39
                  refine lv_lload (pc := 53) E.1 E.2.1 dX9_fill_53 (lv_at hl20 1 rfl) ?_
                  refine lv_aload_n (pc := 55) E.1 E.2.1 dX9_fill_55 rfl (lv_at hl20 4 rfl) ?_
                  refine lv_iload_n (pc := 56) E.1 E.2.1 dX9_fill_56 rfl (lv_at hl20 6 rfl) ?_
                  refine lv_bipush (pc := 57) (v := 10) E.1 E.2.1 dX9_fill_57 (by decide +kernel) ?_
                  refine lv_imul (pc := 59) E.1 E.2.1 dX9_fill_59 ?_
                  refine lv_topi (fun v_42 ev_42 => ?_)
                  have hv_42 : v_42.toInt = z_neighbour.toInt * 10 := by rw [ev_42]; exact mulE rfl (by decide +kernel) (by omega)
                  refine lv_iload (pc := 60) E.1 E.2.1 dX9_fill_60 (lv_at hl20 0 rfl) ?_
                  refine lv_iadd (pc := 62) E.1 E.2.1 dX9_fill_62 ?_
                  refine lv_topi (fun v_43 ev_43 => ?_)
                  have hv_43 : v_43.toInt = v_42.toInt + x_16.toInt := by rw [ev_43]; exact addE rfl rfl (by omega)
                  refine x_lald (pc := 63) (f := g_7) E hw19 2 rfl (inbE (a := v_43.toInt) rfl (by omega)) dX9_fill_63 (fun w_44 => ?_)
                  refine lv_ladd (pc := 64) E.1 E.2.1 dX9_fill_64 ?_
                  refine lv_topl (fun w_45 ew_45 => ?_)
                  refine lv_lstore (pc := 65) (lv' := [(7, .long w_45), (9, .int x_16), (6, .int x_6), (0, .ref (mr 0)), (1, .ref (mr 2)), (2, .int z_night), (3, .int z_neighbour), (4, .int z_left), (5, .int z_houses)]) E.1 E.2.1 dX9_fill_65 hl20 (by decide) rfl (fun ls hl46 => ?_)
                  obtain ⟨v_47, ev_47⟩ : ∃ z : Int32, x_16 + Int32.ofInt (1) = z := ⟨_, rfl⟩
                  have hv_47 : v_47.toInt = x_16.toInt + (1) := by rw [← ev_47]; exact incE rfl (by decide) (by omega)
                  refine lv_iinc (pc := 67) (v := v_47) (lv' := [(9, .int v_47), (7, .long w_45), (6, .int x_6), (0, .ref (mr 0)), (1, .ref (mr 2)), (2, .int z_night), (3, .int z_neighbour), (4, .int z_left), (5, .int z_houses)]) E.1 E.2.1 dX9_fill_67 hl46 (k := 1) rfl ev_47 (by decide) rfl (fun ls hl48 => ?_)
                  refine lv_goto (pc := 70) (tgt := 25) E.1 E.2.1 dX9_fill_70 (by decide) ?_
                  exact ih_18 v_47 w_45 _ _ _ ⟨(by show 0 ≤ v_47.toInt; omega), (by show v_47.toInt ≤ z_houses.toInt; omega)⟩ (by omega) hw19 (lv_sub hl48 [0, 1, 2, 3, 4, 5, 6, 7, 8] rfl)
          exact loop_15 (Int.toNat (z_houses.toInt - 0) + 1) 0 0 _ _ _ ⟨(by show 0 ≤ (0 : Int32).toInt; have k_0 : (0 : Int32).toInt = 0 := (by decide +kernel); omega), (by show (0 : Int32).toInt ≤ z_houses.toInt; have k_0 : (0 : Int32).toInt = 0 := (by decide +kernel); omega)⟩ (by have k_0 : (0 : Int32).toInt = 0 := (by decide +kernel); omega) hw9 (lv_sub hl14 [0, 1, 2, 3, 4, 5, 6, 7, 8] rfl)
        · skip
          have hc_12 := eqE (a := z_neighbour.toInt) (b := (-1)) rfl (by decide +kernel) c_12
          refine lv_lconst (pc := 15) (v := 1) E.1 E.2.1 dX9_fill_15 (by decide +kernel) ?_
          refine lv_goto (pc := 16) (tgt := 20) E.1 E.2.1 dX9_fill_16 (by decide) ?_
          refine lv_lstore (pc := 20) (lv' := [(7, .long 1), (6, .int x_6), (0, .ref (mr 0)), (1, .ref (mr 2)), (2, .int z_night), (3, .int z_neighbour), (4, .int z_left), (5, .int z_houses)]) E.1 E.2.1 dX9_fill_20 hl10 (by decide) rfl (fun ls hl49 => ?_)
          refine lv_iconst (pc := 22) (v := 0) E.1 E.2.1 dX9_fill_22 (by decide +kernel) ?_
          refine lv_istore (pc := 23) (lv' := [(9, .int 0), (7, .long 1), (6, .int x_6), (0, .ref (mr 0)), (1, .ref (mr 2)), (2, .int z_night), (3, .int z_neighbour), (4, .int z_left), (5, .int z_houses)]) E.1 E.2.1 dX9_fill_23 hl49 (by decide) rfl (fun ls hl50 => ?_)
          have loop_51 : ∀ (k : Nat) (x_52 : Int32) (w_53 : Int64) (H : Heap) (locs : List Loc) (ls : Array Slot), (0 ≤ x_52.toInt) ∧ (x_52.toInt ≤ z_houses.toInt) → z_houses.toInt - x_52.toInt < (k : Int) → WD D A s.heap (WZ_Trail cI cJ mr mi mf (va_up mg 2 g_7)) H locs → lv_has ls 10 [(9, .int x_52), (7, .long w_53), (6, .int x_6), (0, .ref (mr 0)), (1, .ref (mr 2)), (2, .int z_night), (3, .int z_neighbour), (4, .int z_left), (5, .int z_houses)] → W p l e ({ frames := 1, cells := 0, slots := 0, locals := 40 } : Room) s m ([.ref (mr 0), .ref (mr 2), .int z_night, .int z_neighbour, .int z_left, .int z_houses] : List Value).toArray below meth c H locs 0 0 (MQ below (va_Qv (fun (u : (Nat → Int64)) => True) (fun u => QW D cI cJ A ((fun (u : (Nat → Int64)) => (WZ_Trail cI cJ mr mi mf (va_up mg 2 u))) u)) A) ([.ref (mr 0), .ref (mr 2), .int z_night, .int z_neighbour, .int z_left, .int z_houses] : List Value).toArray s 0 0 A) (F0 m 25 ls []) := by
            intro k
            induction k with
            | zero =>
              intro x_52 w_53 _ _ _ hinv hm
              obtain ⟨hi_53_0, hi_53_1⟩ := hinv
              exact absurd hm (by omega)
            | succ k ih_54 =>
              intro x_52 w_53 H locs ls hinv hm hw55 hl56
              obtain ⟨hi_53_0, hi_53_1⟩ := hinv
              refine lv_iload (pc := 25) E.1 E.2.1 dX9_fill_25 (lv_at hl56 0 rfl) ?_
              refine lv_iload (pc := 27) E.1 E.2.1 dX9_fill_27 (lv_at hl56 8 rfl) ?_
              refine lv_icmp_ge (pc := 29) (tgt := 73) E.1 E.2.1 dX9_fill_29 (by decide) (fun c_57 => ?_) (fun c_57 => ?_)
              · skip
                have hc_57 := leE (a := z_houses.toInt) (b := x_52.toInt) rfl rfl c_57
                refine lv_aload_n (pc := 73) E.1 E.2.1 dX9_fill_73 rfl (lv_at hl56 4 rfl) ?_
                refine lv_iload_n (pc := 74) E.1 E.2.1 dX9_fill_74 rfl (lv_at hl56 5 rfl) ?_
                refine lv_bipush (pc := 75) (v := 10) E.1 E.2.1 dX9_fill_75 (by decide +kernel) ?_
                refine lv_imul (pc := 77) E.1 E.2.1 dX9_fill_77 ?_
                refine lv_topi (fun v_58 ev_58 => ?_)
                have hv_58 : v_58.toInt = z_night.toInt * 10 := by rw [ev_58]; exact mulE rfl (by decide +kernel) (by omega)
                refine lv_iload (pc := 78) E.1 E.2.1 dX9_fill_78 (lv_at hl56 2 rfl) ?_
                refine lv_iadd (pc := 80) E.1 E.2.1 dX9_fill_80 ?_
                refine lv_topi (fun v_59 ev_59 => ?_)
                have hv_59 : v_59.toInt = v_58.toInt + x_6.toInt := by rw [ev_59]; exact addE rfl rfl (by omega)
                refine lv_iload (pc := 81) E.1 E.2.1 dX9_fill_81 (lv_at hl56 7 rfl) ?_
                refine lv_iload (pc := 83) E.1 E.2.1 dX9_fill_83 (lv_at hl56 2 rfl) ?_
                refine lv_ishr (pc := 85) E.1 E.2.1 dX9_fill_85 ?_
                refine lv_topi (fun v_60 ev_60 => ?_)
                refine lv_iconst (pc := 86) (v := 1) E.1 E.2.1 dX9_fill_86 (by decide +kernel) ?_
                refine lv_iand (pc := 87) E.1 E.2.1 dX9_fill_87 ?_
                refine lv_topi (fun v_61 ev_61 => ?_)
                refine lv_iconst (pc := 88) (v := 1) E.1 E.2.1 dX9_fill_88 (by decide +kernel) ?_
                refine lv_icmp_ne (pc := 89) (tgt := 97) E.1 E.2.1 dX9_fill_89 (by decide) (fun c_62 => ?_) (fun c_62 => ?_)
                · skip
                  have hc_62 := neE (a := v_61.toInt) (b := 1) rfl (by decide +kernel) c_62
                  refine lv_lconst (pc := 97) (v := 0) E.1 E.2.1 dX9_fill_97 (by decide +kernel) ?_
                  refine x_lastO (pc := 98) (f := g_7) (wf := fun g => (WZ_Trail cI cJ mr mi mf (va_up mg 2 g))) E hw55 2 rfl (inbE (a := v_59.toInt) rfl (by omega)) (fun _ => rfl) dX9_fill_98 (fun g_63 H locs hw64 => ?_)
                  obtain ⟨v_65, ev_65⟩ : ∃ z : Int32, x_6 + Int32.ofInt (1) = z := ⟨_, rfl⟩
                  have hv_65 : v_65.toInt = x_6.toInt + (1) := by rw [← ev_65]; exact incE rfl (by decide) (by omega)
                  refine lv_iinc (pc := 99) (v := v_65) (lv' := [(6, .int v_65), (9, .int x_52), (7, .long w_53), (0, .ref (mr 0)), (1, .ref (mr 2)), (2, .int z_night), (3, .int z_neighbour), (4, .int z_left), (5, .int z_houses)]) E.1 E.2.1 dX9_fill_99 hl56 (k := 2) rfl ev_65 (by decide) rfl (fun ls hl66 => ?_)
                  refine lv_goto (pc := 102) (tgt := 3) E.1 E.2.1 dX9_fill_102 (by decide) ?_
                  exact ih_8 v_65 g_63 _ _ _ ⟨(by show 0 ≤ v_65.toInt; omega), (by show v_65.toInt ≤ z_houses.toInt; omega)⟩ (by omega) hw64 (lv_sub hl66 [0, 3, 4, 5, 6, 7, 8] rfl)
                · skip
                  have hc_62 := eqE (a := v_61.toInt) (b := 1) rfl (by decide +kernel) c_62
                  refine lv_lload (pc := 92) E.1 E.2.1 dX9_fill_92 (lv_at hl56 1 rfl) ?_
                  refine lv_goto (pc := 94) (tgt := 98) E.1 E.2.1 dX9_fill_94 (by decide) ?_
                  refine x_lastO (pc := 98) (f := g_7) (wf := fun g => (WZ_Trail cI cJ mr mi mf (va_up mg 2 g))) E hw55 2 rfl (inbE (a := v_59.toInt) rfl (by omega)) (fun _ => rfl) dX9_fill_98 (fun g_67 H locs hw68 => ?_)
                  obtain ⟨v_69, ev_69⟩ : ∃ z : Int32, x_6 + Int32.ofInt (1) = z := ⟨_, rfl⟩
                  have hv_69 : v_69.toInt = x_6.toInt + (1) := by rw [← ev_69]; exact incE rfl (by decide) (by omega)
                  refine lv_iinc (pc := 99) (v := v_69) (lv' := [(6, .int v_69), (9, .int x_52), (7, .long w_53), (0, .ref (mr 0)), (1, .ref (mr 2)), (2, .int z_night), (3, .int z_neighbour), (4, .int z_left), (5, .int z_houses)]) E.1 E.2.1 dX9_fill_99 hl56 (k := 2) rfl ev_69 (by decide) rfl (fun ls hl70 => ?_)
                  refine lv_goto (pc := 102) (tgt := 3) E.1 E.2.1 dX9_fill_102 (by decide) ?_
                  exact ih_8 v_69 g_67 _ _ _ ⟨(by show 0 ≤ v_69.toInt; omega), (by show v_69.toInt ≤ z_houses.toInt; omega)⟩ (by omega) hw68 (lv_sub hl70 [0, 3, 4, 5, 6, 7, 8] rfl)
              · skip
                have hc_57 := nleE (a := z_houses.toInt) (b := x_52.toInt) rfl rfl c_57
                refine lv_iload_n (pc := 32) E.1 E.2.1 dX9_fill_32 rfl (lv_at hl56 6 rfl) ?_
                refine lv_iconst (pc := 33) (v := (-1)) E.1 E.2.1 dX9_fill_33 (by decide +kernel) ?_
                refine lv_icmp_eq (pc := 34) (tgt := 73) E.1 E.2.1 dX9_fill_34 (by decide) (fun _ => ?_) (fun c_71 => absurd (meqE (a := z_neighbour.toInt) (b := (-1)) rfl (by decide +kernel) (by omega)) c_71)
                refine lv_aload_n (pc := 73) E.1 E.2.1 dX9_fill_73 rfl (lv_at hl56 4 rfl) ?_
                refine lv_iload_n (pc := 74) E.1 E.2.1 dX9_fill_74 rfl (lv_at hl56 5 rfl) ?_
                refine lv_bipush (pc := 75) (v := 10) E.1 E.2.1 dX9_fill_75 (by decide +kernel) ?_
                refine lv_imul (pc := 77) E.1 E.2.1 dX9_fill_77 ?_
                refine lv_topi (fun v_72 ev_72 => ?_)
                have hv_72 : v_72.toInt = z_night.toInt * 10 := by rw [ev_72]; exact mulE rfl (by decide +kernel) (by omega)
                refine lv_iload (pc := 78) E.1 E.2.1 dX9_fill_78 (lv_at hl56 2 rfl) ?_
                refine lv_iadd (pc := 80) E.1 E.2.1 dX9_fill_80 ?_
                refine lv_topi (fun v_73 ev_73 => ?_)
                have hv_73 : v_73.toInt = v_72.toInt + x_6.toInt := by rw [ev_73]; exact addE rfl rfl (by omega)
                refine lv_iload (pc := 81) E.1 E.2.1 dX9_fill_81 (lv_at hl56 7 rfl) ?_
                refine lv_iload (pc := 83) E.1 E.2.1 dX9_fill_83 (lv_at hl56 2 rfl) ?_
                refine lv_ishr (pc := 85) E.1 E.2.1 dX9_fill_85 ?_
                refine lv_topi (fun v_74 ev_74 => ?_)
                refine lv_iconst (pc := 86) (v := 1) E.1 E.2.1 dX9_fill_86 (by decide +kernel) ?_
                refine lv_iand (pc := 87) E.1 E.2.1 dX9_fill_87 ?_
                refine lv_topi (fun v_75 ev_75 => ?_)
                refine lv_iconst (pc := 88) (v := 1) E.1 E.2.1 dX9_fill_88 (by decide +kernel) ?_
                refine lv_icmp_ne (pc := 89) (tgt := 97) E.1 E.2.1 dX9_fill_89 (by decide) (fun c_76 => ?_) (fun c_76 => ?_)
                · skip
                  have hc_76 := neE (a := v_75.toInt) (b := 1) rfl (by decide +kernel) c_76
                  refine lv_lconst (pc := 97) (v := 0) E.1 E.2.1 dX9_fill_97 (by decide +kernel) ?_
                  refine x_lastO (pc := 98) (f := g_7) (wf := fun g => (WZ_Trail cI cJ mr mi mf (va_up mg 2 g))) E hw55 2 rfl (inbE (a := v_73.toInt) rfl (by omega)) (fun _ => rfl) dX9_fill_98 (fun g_77 H locs hw78 => ?_)
                  obtain ⟨v_79, ev_79⟩ : ∃ z : Int32, x_6 + Int32.ofInt (1) = z := ⟨_, rfl⟩
                  have hv_79 : v_79.toInt = x_6.toInt + (1) := by rw [← ev_79]; exact incE rfl (by decide) (by omega)
                  refine lv_iinc (pc := 99) (v := v_79) (lv' := [(6, .int v_79), (9, .int x_52), (7, .long w_53), (0, .ref (mr 0)), (1, .ref (mr 2)), (2, .int z_night), (3, .int z_neighbour), (4, .int z_left), (5, .int z_houses)]) E.1 E.2.1 dX9_fill_99 hl56 (k := 2) rfl ev_79 (by decide) rfl (fun ls hl80 => ?_)
                  refine lv_goto (pc := 102) (tgt := 3) E.1 E.2.1 dX9_fill_102 (by decide) ?_
                  exact ih_8 v_79 g_77 _ _ _ ⟨(by show 0 ≤ v_79.toInt; omega), (by show v_79.toInt ≤ z_houses.toInt; omega)⟩ (by omega) hw78 (lv_sub hl80 [0, 3, 4, 5, 6, 7, 8] rfl)
                · skip
                  have hc_76 := eqE (a := v_75.toInt) (b := 1) rfl (by decide +kernel) c_76
                  refine lv_lload (pc := 92) E.1 E.2.1 dX9_fill_92 (lv_at hl56 1 rfl) ?_
                  refine lv_goto (pc := 94) (tgt := 98) E.1 E.2.1 dX9_fill_94 (by decide) ?_
                  refine x_lastO (pc := 98) (f := g_7) (wf := fun g => (WZ_Trail cI cJ mr mi mf (va_up mg 2 g))) E hw55 2 rfl (inbE (a := v_73.toInt) rfl (by omega)) (fun _ => rfl) dX9_fill_98 (fun g_81 H locs hw82 => ?_)
                  obtain ⟨v_83, ev_83⟩ : ∃ z : Int32, x_6 + Int32.ofInt (1) = z := ⟨_, rfl⟩
                  have hv_83 : v_83.toInt = x_6.toInt + (1) := by rw [← ev_83]; exact incE rfl (by decide) (by omega)
                  refine lv_iinc (pc := 99) (v := v_83) (lv' := [(6, .int v_83), (9, .int x_52), (7, .long w_53), (0, .ref (mr 0)), (1, .ref (mr 2)), (2, .int z_night), (3, .int z_neighbour), (4, .int z_left), (5, .int z_houses)]) E.1 E.2.1 dX9_fill_99 hl56 (k := 2) rfl ev_83 (by decide) rfl (fun ls hl84 => ?_)
                  refine lv_goto (pc := 102) (tgt := 3) E.1 E.2.1 dX9_fill_102 (by decide) ?_
                  exact ih_8 v_83 g_81 _ _ _ ⟨(by show 0 ≤ v_83.toInt; omega), (by show v_83.toInt ≤ z_houses.toInt; omega)⟩ (by omega) hw82 (lv_sub hl84 [0, 3, 4, 5, 6, 7, 8] rfl)
          exact loop_51 (Int.toNat (z_houses.toInt - 0) + 1) 0 1 _ _ _ ⟨(by show 0 ≤ (0 : Int32).toInt; have k_0 : (0 : Int32).toInt = 0 := (by decide +kernel); omega), (by show (0 : Int32).toInt ≤ z_houses.toInt; have k_0 : (0 : Int32).toInt = 0 := (by decide +kernel); omega)⟩ (by have k_0 : (0 : Int32).toInt = 0 := (by decide +kernel); omega) hw9 (lv_sub hl50 [0, 1, 2, 3, 4, 5, 6, 7, 8] rfl)
  exact loop_5 (Int.toNat (z_houses.toInt - 0) + 1) 0 (mg 2) _ _ _ ⟨(by show 0 ≤ (0 : Int32).toInt; have k_0 : (0 : Int32).toInt = 0 := (by decide +kernel); omega), (by show (0 : Int32).toInt ≤ z_houses.toInt; have k_0 : (0 : Int32).toInt = 0 := (by decide +kernel); omega)⟩ (by have k_0 : (0 : Int32).toInt = 0 := (by decide +kernel); omega) hw1 (lv_sub hl4 [0, 1, 2, 3, 4, 5, 6] rfl)
set_option maxHeartbeats 4000000 in
set_option maxRecDepth 100000 in
theorem t_through (l : Launch) (D : va_G) (cI cJ : ClassId) (sz : Nat) (mr : Nat → Nat) (mi : Nat → Int32) (mf : Nat → Nat → Int32) (mg : Nat → Nat → Int64) (z_night : Int32) (z_h : Int32) (h0 : 0 ≤ z_night.toInt ∧ z_night.toInt ≤ 9) (h1 : 0 ≤ z_h.toInt ∧ z_h.toInt ≤ 9) : Met l yX9_through (Cond.code yX9_through cX9_through 4 (some .long) :: GW) ({ frames := 1, cells := 0, slots := 0, locals := 40 } : Room) (va_Pc [.ref (mr 0), .int z_night, .int z_h] (PW D cI cJ sz (WZ_Trail cI cJ mr mi mf mg) xT)) (va_Ql (fun (r : Int64) (u : Unit) => True) (fun u => QW D cI cJ (va_A (WZ_Trail cI cJ mr mi mf mg) sz) ((fun (u : Unit) => (WZ_Trail cI cJ mr mi mf mg)) u)) (va_A (WZ_Trail cI cJ mr mi mf mg) sz)) 0 0 (va_A (WZ_Trail cI cJ mr mi mf mg) sz) := by
  refine mk_met (y := yX9_through) (bytes := cX9_through) (maxL := 4) (avs := [.ref (mr 0), .int z_night, .int z_h]) (WS := (WZ_Trail cI cJ mr mi mf mg)) (Qf := fun A => va_Ql (fun (r : Int64) (u : Unit) => True) (fun u => QW D cI cJ A ((fun (u : Unit) => (WZ_Trail cI cJ mr mi mf mg)) u)) A) (by decide) (Nat.le_of_ble_eq_true rfl) ?_
  intro p e s m below meth c A ls E hr hlk hnm hX hw1 hl2
  have hl3 : lv_has ls 4 [(0, .ref (mr 0)), (1, .int z_night), (2, .int z_h)] := hl2
  refine lv_iload_n (pc := 0) E.1 E.2.1 dX9_through_0 rfl (lv_at hl3 1 rfl) ?_
  refine lv_bipush (pc := 1) (v := 10) E.1 E.2.1 dX9_through_1 (by decide +kernel) ?_
  refine lv_imul (pc := 3) E.1 E.2.1 dX9_through_3 ?_
  refine lv_topi (fun v_4 ev_4 => ?_)
  have hv_4 : v_4.toInt = z_night.toInt * 10 := by rw [ev_4]; exact mulE rfl (by decide +kernel) (by omega)
  refine lv_iload_n (pc := 4) E.1 E.2.1 dX9_through_4 rfl (lv_at hl3 2 rfl) ?_
  refine lv_iadd (pc := 5) E.1 E.2.1 dX9_through_5 ?_
  refine lv_topi (fun v_5 ev_5 => ?_)
  have hv_5 : v_5.toInt = v_4.toInt + z_h.toInt := by rw [ev_5]; exact addE rfl rfl (by omega)
  refine lv_istore_n (pc := 6) (lv' := [(3, .int v_5), (0, .ref (mr 0)), (1, .int z_night), (2, .int z_h)]) E.1 E.2.1 dX9_through_6 rfl hl3 (by decide) rfl (fun ls hl6 => ?_)
  refine lv_aload_n (pc := 7) E.1 E.2.1 dX9_through_7 rfl (lv_at hl6 1 rfl) ?_
  refine x_get (pc := 8) (T := TX9) (N := 3) (ci := 9) (v := .ref (mr 1)) E hw1 inX9 0 0 q_594 rfl rfl (by decide) rfl rfl dX9_through_8 ?_
  refine lv_iload_n (pc := 11) E.1 E.2.1 dX9_through_11 rfl (lv_at hl6 0 rfl) ?_
  refine x_lald (pc := 12) (f := (mg 1)) E hw1 1 rfl (inbE (a := v_5.toInt) rfl (by omega)) dX9_through_12 (fun w_7 => ?_)
  refine lv_aload_n (pc := 13) E.1 E.2.1 dX9_through_13 rfl (lv_at hl6 1 rfl) ?_
  refine x_get (pc := 14) (T := TX9) (N := 3) (ci := 9) (v := .ref (mr 2)) E hw1 inX9 0 1 q_595 rfl rfl (by decide) rfl rfl dX9_through_14 ?_
  refine lv_iload_n (pc := 17) E.1 E.2.1 dX9_through_17 rfl (lv_at hl6 0 rfl) ?_
  refine x_lald (pc := 18) (f := (mg 2)) E hw1 2 rfl (inbE (a := v_5.toInt) rfl (by omega)) dX9_through_18 (fun w_8 => ?_)
  refine lv_lmul (pc := 19) E.1 E.2.1 dX9_through_19 ?_
  refine lv_topl (fun w_9 ew_9 => ?_)
  exact em_l (w1 := (fun (u : Unit) => (WZ_Trail cI cJ mr mi mf mg))) E hr hlk () hw1 trivial (Nat.le_of_ble_eq_true rfl) (Nat.le_of_ble_eq_true rfl) dX9_through_20
set_option maxHeartbeats 4000000 in
set_option maxRecDepth 100000 in
theorem t_question (l : Launch) (D : va_G) (cI cJ : ClassId) (sz : Nat) (mr : Nat → Nat) (mi : Nat → Int32) (mf : Nat → Nat → Int32) (mg : Nat → Nat → Int64) (z_all : Int64) (z_n : Int32) (z_houses : Int32) (h0 : 1 ≤ z_n.toInt ∧ z_n.toInt ≤ 10) (h1 : 0 ≤ z_houses.toInt ∧ z_houses.toInt ≤ 10) : Met l yX9_question (Cond.code yX9_question cX9_question 14 (some .int) :: GW) ({ frames := 2, cells := 0, slots := 0, locals := 63 } : Room) (va_Pc [.ref (mr 0), .long z_all, .int z_n, .int z_houses] (PW D cI cJ sz (WZ_Trail cI cJ mr mi mf mg) xT)) (va_Qi (fun (r : Int32) (u : Unit) => True) (fun u => QW D cI cJ (va_A (WZ_Trail cI cJ mr mi mf mg) sz) ((fun (u : Unit) => (WZ_Trail cI cJ mr mi mf mg)) u)) (va_A (WZ_Trail cI cJ mr mi mf mg) sz)) 0 0 (va_A (WZ_Trail cI cJ mr mi mf mg) sz) := by
  refine mk_met (y := yX9_question) (bytes := cX9_question) (maxL := 14) (avs := [.ref (mr 0), .long z_all, .int z_n, .int z_houses]) (WS := (WZ_Trail cI cJ mr mi mf mg)) (Qf := fun A => va_Qi (fun (r : Int32) (u : Unit) => True) (fun u => QW D cI cJ A ((fun (u : Unit) => (WZ_Trail cI cJ mr mi mf mg)) u)) A) (by decide) (Nat.le_of_ble_eq_true rfl) ?_
  intro p e s m below meth c A ls E hr hlk hnm hX hw1 hl2
  have hl3 : lv_has ls 14 [(0, .ref (mr 0)), (1, .long z_all), (3, .int z_n), (4, .int z_houses)] := hl2
  refine lv_iconst (pc := 0) (v := 0) E.1 E.2.1 dX9_question_0 (by decide +kernel) ?_
  refine lv_istore (pc := 1) (lv' := [(5, .int 0), (0, .ref (mr 0)), (1, .long z_all), (3, .int z_n), (4, .int z_houses)]) E.1 E.2.1 dX9_question_1 hl3 (by decide) rfl (fun ls hl4 => ?_)
  refine lv_lload_n (pc := 3) E.1 E.2.1 dX9_question_3 rfl (lv_at hl4 2 rfl) ?_
  refine lv_lstore (pc := 4) (lv' := [(6, .long z_all), (5, .int 0), (0, .ref (mr 0)), (1, .long z_all), (3, .int z_n), (4, .int z_houses)]) E.1 E.2.1 dX9_question_4 hl4 (by decide) rfl (fun ls hl5 => ?_)
  refine lv_iconst (pc := 6) (v := 0) E.1 E.2.1 dX9_question_6 (by decide +kernel) ?_
  refine lv_istore (pc := 7) (lv' := [(8, .int 0), (6, .long z_all), (5, .int 0), (0, .ref (mr 0)), (1, .long z_all), (3, .int z_n), (4, .int z_houses)]) E.1 E.2.1 dX9_question_7 hl5 (by decide) rfl (fun ls hl6 => ?_)
  have loop_7 : ∀ (k : Nat) (x_8 : Int32) (x_9 : Int32) (w_10 : Int64) (H : Heap) (locs : List Loc) (ls : Array Slot), (0 ≤ x_8.toInt) ∧ (x_8.toInt ≤ z_n.toInt) → z_n.toInt - x_8.toInt < (k : Int) → WD D A s.heap (WZ_Trail cI cJ mr mi mf mg) H locs → lv_has ls 14 [(8, .int x_8), (6, .long w_10), (5, .int x_9), (0, .ref (mr 0)), (1, .long z_all), (3, .int z_n), (4, .int z_houses)] → W p l e ({ frames := 2, cells := 0, slots := 0, locals := 63 } : Room) s m ([.ref (mr 0), .long z_all, .int z_n, .int z_houses] : List Value).toArray below meth c H locs 0 0 (MQ below (va_Qi (fun (r : Int32) (u : Unit) => True) (fun u => QW D cI cJ A ((fun (u : Unit) => (WZ_Trail cI cJ mr mi mf mg)) u)) A) ([.ref (mr 0), .long z_all, .int z_n, .int z_houses] : List Value).toArray s 0 0 A) (F0 m 9 ls []) := by
    intro k
    induction k with
    | zero =>
      intro x_8 x_9 w_10 _ _ _ hinv hm
      obtain ⟨hi_10_0, hi_10_1⟩ := hinv
      exact absurd hm (by omega)
    | succ k ih_11 =>
      intro x_8 x_9 w_10 H locs ls hinv hm hw12 hl13
      obtain ⟨hi_10_0, hi_10_1⟩ := hinv
      refine lv_iload (pc := 9) E.1 E.2.1 dX9_question_9 (lv_at hl13 0 rfl) ?_
      refine lv_iload_n (pc := 11) E.1 E.2.1 dX9_question_11 rfl (lv_at hl13 5 rfl) ?_
      refine lv_icmp_ge (pc := 12) (tgt := 80) E.1 E.2.1 dX9_question_12 (by decide) (fun c_14 => ?_) (fun c_14 => ?_)
      · skip
        have hc_14 := leE (a := z_n.toInt) (b := x_8.toInt) rfl rfl c_14
        refine lv_iload (pc := 80) E.1 E.2.1 dX9_question_80 (lv_at hl13 2 rfl) ?_
        exact em_i (w1 := (fun (u : Unit) => (WZ_Trail cI cJ mr mi mf mg))) E hr hlk () hw12 trivial (Nat.le_of_ble_eq_true rfl) (Nat.le_of_ble_eq_true rfl) dX9_question_82
      · skip
        have hc_14 := nleE (a := z_n.toInt) (b := x_8.toInt) rfl rfl c_14
        refine lv_iconst (pc := 15) (v := 0) E.1 E.2.1 dX9_question_15 (by decide +kernel) ?_
        refine lv_istore (pc := 16) (lv' := [(9, .int 0), (8, .int x_8), (6, .long w_10), (5, .int x_9), (0, .ref (mr 0)), (1, .long z_all), (3, .int z_n), (4, .int z_houses)]) E.1 E.2.1 dX9_question_16 hl13 (by decide) rfl (fun ls hl15 => ?_)
        have loop_16 : ∀ (k : Nat) (x_17 : Int32) (x_18 : Int32) (w_19 : Int64) (H : Heap) (locs : List Loc) (ls : Array Slot), (0 ≤ x_17.toInt) ∧ (x_17.toInt ≤ z_houses.toInt) → z_houses.toInt - x_17.toInt < (k : Int) → WD D A s.heap (WZ_Trail cI cJ mr mi mf mg) H locs → lv_has ls 14 [(9, .int x_17), (8, .int x_8), (6, .long w_19), (5, .int x_18), (0, .ref (mr 0)), (1, .long z_all), (3, .int z_n), (4, .int z_houses)] → W p l e ({ frames := 2, cells := 0, slots := 0, locals := 63 } : Room) s m ([.ref (mr 0), .long z_all, .int z_n, .int z_houses] : List Value).toArray below meth c H locs 0 0 (MQ below (va_Qi (fun (r : Int32) (u : Unit) => True) (fun u => QW D cI cJ A ((fun (u : Unit) => (WZ_Trail cI cJ mr mi mf mg)) u)) A) ([.ref (mr 0), .long z_all, .int z_n, .int z_houses] : List Value).toArray s 0 0 A) (F0 m 18 ls []) := by
          intro k
          induction k with
          | zero =>
            intro x_17 x_18 w_19 _ _ _ hinv hm
            obtain ⟨hi_19_0, hi_19_1⟩ := hinv
            exact absurd hm (by omega)
          | succ k ih_20 =>
            intro x_17 x_18 w_19 H locs ls hinv hm hw21 hl22
            obtain ⟨hi_19_0, hi_19_1⟩ := hinv
            refine lv_iload (pc := 18) E.1 E.2.1 dX9_question_18 (lv_at hl22 0 rfl) ?_
            refine lv_iload (pc := 20) E.1 E.2.1 dX9_question_20 (lv_at hl22 7 rfl) ?_
            refine lv_icmp_ge (pc := 22) (tgt := 74) E.1 E.2.1 dX9_question_22 (by decide) (fun c_23 => ?_) (fun c_23 => ?_)
            · skip
              have hc_23 := leE (a := z_houses.toInt) (b := x_17.toInt) rfl rfl c_23
              obtain ⟨v_24, ev_24⟩ : ∃ z : Int32, x_8 + Int32.ofInt (1) = z := ⟨_, rfl⟩
              have hv_24 : v_24.toInt = x_8.toInt + (1) := by rw [← ev_24]; exact incE rfl (by decide) (by omega)
              refine lv_iinc (pc := 74) (v := v_24) (lv' := [(8, .int v_24), (9, .int x_17), (6, .long w_19), (5, .int x_18), (0, .ref (mr 0)), (1, .long z_all), (3, .int z_n), (4, .int z_houses)]) E.1 E.2.1 dX9_question_74 hl22 (k := 1) rfl ev_24 (by decide) rfl (fun ls hl25 => ?_)
              refine lv_goto (pc := 77) (tgt := 9) E.1 E.2.1 dX9_question_77 (by decide) ?_
              exact ih_11 v_24 x_18 w_19 _ _ _ ⟨(by show 0 ≤ v_24.toInt; omega), (by show v_24.toInt ≤ z_n.toInt; omega)⟩ (by omega) hw21 (lv_sub hl25 [0, 2, 3, 4, 5, 6, 7] rfl)
            · skip
              have hc_23 := nleE (a := z_houses.toInt) (b := x_17.toInt) rfl rfl c_23
              refine lv_aload_n (pc := 25) E.1 E.2.1 dX9_question_25 rfl (lv_at hl22 4 rfl) ?_
              refine lv_iload (pc := 26) E.1 E.2.1 dX9_question_26 (lv_at hl22 1 rfl) ?_
              refine lv_iload (pc := 28) E.1 E.2.1 dX9_question_28 (lv_at hl22 0 rfl) ?_
              refine ck_l (pc := 30) (ws' := (fun (u : Unit) => (WZ_Trail cI cJ mr mi mf mg))) [true, true, true, true] hw21 rfl (fun hC_ => (rn_V (As := [.int x_8, .int x_17]) (rest := []) E hw21 (t_through l D cI cJ _ mr mi mf mg x_8 x_17 (by show 0 ≤ x_8.toInt ∧ x_8.toInt ≤ 9; omega) (by show 0 ≤ x_17.toInt ∧ x_17.toInt ≤ 9; omega)) (gdV q_1358 q_1347 q_1348 q_161 q_1349) hdV_X9_through ⟨rfl, rfl⟩ ⟨(Nat.le_of_ble_eq_true rfl), (Nat.le_of_ble_eq_true rfl)⟩ ⟨(Nat.le_of_ble_eq_true rfl), (Nat.le_of_ble_eq_true rfl)⟩ xT_b xT_at 0 9 rfl rfl rfl _ hC_ (nd_T _ 0) rfl hl22.1 rfl (Nat.le_of_ble_eq_true rfl) dX9_question_30)) rfl (fun _ => rfl) (fun _ => rfl) (fun r_27 u_26 H1 locs hp hw28 => ?_)
              generalize H1 = H at hw28 ⊢
              have hw29 : WD D A s.heap (WZ_Trail cI cJ mr mi mf mg) H locs := hw28
              refine lv_lstore (pc := 33) (lv' := [(10, .long r_27), (9, .int x_17), (8, .int x_8), (6, .long w_19), (5, .int x_18), (0, .ref (mr 0)), (1, .long z_all), (3, .int z_n), (4, .int z_houses)]) E.1 E.2.1 dX9_question_33 hl22 (by decide) rfl (fun ls hl30 => ?_)
              refine lv_lload (pc := 35) E.1 E.2.1 dX9_question_35 (lv_at hl30 0 rfl) ?_
              refine lv_lload_n (pc := 37) E.1 E.2.1 dX9_question_37 rfl (lv_at hl30 6 rfl) ?_
              refine lv_lload (pc := 38) E.1 E.2.1 dX9_question_38 (lv_at hl30 0 rfl) ?_
              refine lv_lsub (pc := 40) E.1 E.2.1 dX9_question_40 ?_
              refine lv_topl (fun w_31 ew_31 => ?_)
              refine x_maxL (pc := 41) E hl30.1 q_1359 q_1360 q_167 q_1361 (Nat.le_of_ble_eq_true rfl) (Nat.le_of_ble_eq_true rfl) (Nat.le_of_ble_eq_true rfl) (Nat.le_of_ble_eq_true rfl) dX9_question_41 (fun w_32 => ?_)
              refine lv_lstore (pc := 44) (lv' := [(12, .long w_32), (10, .long r_27), (9, .int x_17), (8, .int x_8), (6, .long w_19), (5, .int x_18), (0, .ref (mr 0)), (1, .long z_all), (3, .int z_n), (4, .int z_houses)]) E.1 E.2.1 dX9_question_44 hl30 (by decide) rfl (fun ls hl33 => ?_)
              refine lv_lload (pc := 46) E.1 E.2.1 dX9_question_46 (lv_at hl33 0 rfl) ?_
              refine lv_lload (pc := 48) E.1 E.2.1 dX9_question_48 (lv_at hl33 4 rfl) ?_
              refine W.lcmp (pc := 50) E.1 E.2.1 dX9_question_50 ?_
              refine lv_topi (fun v_34 ev_34 => ?_)
              refine lv_if_ge (pc := 51) (tgt := 68) E.1 E.2.1 dX9_question_51 (by decide) (fun c_35 => ?_) (fun c_35 => ?_)
              · skip
                have hc_35 := leE (a := 0) (b := v_34.toInt) (by decide +kernel) rfl c_35
                obtain ⟨v_36, ev_36⟩ : ∃ z : Int32, x_17 + Int32.ofInt (1) = z := ⟨_, rfl⟩
                have hv_36 : v_36.toInt = x_17.toInt + (1) := by rw [← ev_36]; exact incE rfl (by decide) (by omega)
                refine lv_iinc (pc := 68) (v := v_36) (lv' := [(9, .int v_36), (12, .long w_32), (10, .long r_27), (8, .int x_8), (6, .long w_19), (5, .int x_18), (0, .ref (mr 0)), (1, .long z_all), (3, .int z_n), (4, .int z_houses)]) E.1 E.2.1 dX9_question_68 hl33 (k := 2) rfl ev_36 (by decide) rfl (fun ls hl37 => ?_)
                refine lv_goto (pc := 71) (tgt := 18) E.1 E.2.1 dX9_question_71 (by decide) ?_
                exact ih_20 v_36 x_18 w_19 _ _ _ ⟨(by show 0 ≤ v_36.toInt; omega), (by show v_36.toInt ≤ z_houses.toInt; omega)⟩ (by omega) hw29 (lv_sub hl37 [0, 3, 4, 5, 6, 7, 8, 9] rfl)
              · skip
                have hc_35 := nleE (a := 0) (b := v_34.toInt) (by decide +kernel) rfl c_35
                refine lv_lload (pc := 54) E.1 E.2.1 dX9_question_54 (lv_at hl33 0 rfl) ?_
                refine lv_lstore (pc := 56) (lv' := [(6, .long w_32), (12, .long w_32), (10, .long r_27), (9, .int x_17), (8, .int x_8), (5, .int x_18), (0, .ref (mr 0)), (1, .long z_all), (3, .int z_n), (4, .int z_houses)]) E.1 E.2.1 dX9_question_56 hl33 (by decide) rfl (fun ls hl38 => ?_)
                refine lv_iload (pc := 58) E.1 E.2.1 dX9_question_58 (lv_at hl38 4 rfl) ?_
                refine lv_bipush (pc := 60) (v := 10) E.1 E.2.1 dX9_question_60 (by decide +kernel) ?_
                refine lv_imul (pc := 62) E.1 E.2.1 dX9_question_62 ?_
                refine lv_topi (fun v_39 ev_39 => ?_)
                have hv_39 : v_39.toInt = x_8.toInt * 10 := by rw [ev_39]; exact mulE rfl (by decide +kernel) (by omega)
                refine lv_iload (pc := 63) E.1 E.2.1 dX9_question_63 (lv_at hl38 3 rfl) ?_
                refine lv_iadd (pc := 65) E.1 E.2.1 dX9_question_65 ?_
                refine lv_topi (fun v_40 ev_40 => ?_)
                have hv_40 : v_40.toInt = v_39.toInt + x_17.toInt := by rw [ev_40]; exact addE rfl rfl (by omega)
                refine lv_istore (pc := 66) (lv' := [(5, .int v_40), (6, .long w_32), (12, .long w_32), (10, .long r_27), (9, .int x_17), (8, .int x_8), (0, .ref (mr 0)), (1, .long z_all), (3, .int z_n), (4, .int z_houses)]) E.1 E.2.1 dX9_question_66 hl38 (by decide) rfl (fun ls hl41 => ?_)
                obtain ⟨v_42, ev_42⟩ : ∃ z : Int32, x_17 + Int32.ofInt (1) = z := ⟨_, rfl⟩
                have hv_42 : v_42.toInt = x_17.toInt + (1) := by rw [← ev_42]; exact incE rfl (by decide) (by omega)
                refine lv_iinc (pc := 68) (v := v_42) (lv' := [(9, .int v_42), (5, .int v_40), (6, .long w_32), (12, .long w_32), (10, .long r_27), (8, .int x_8), (0, .ref (mr 0)), (1, .long z_all), (3, .int z_n), (4, .int z_houses)]) E.1 E.2.1 dX9_question_68 hl41 (k := 4) rfl ev_42 (by decide) rfl (fun ls hl43 => ?_)
                refine lv_goto (pc := 71) (tgt := 18) E.1 E.2.1 dX9_question_71 (by decide) ?_
                exact ih_20 v_42 v_40 w_32 _ _ _ ⟨(by show 0 ≤ v_42.toInt; omega), (by show v_42.toInt ≤ z_houses.toInt; omega)⟩ (by omega) hw29 (lv_sub hl43 [0, 5, 2, 1, 6, 7, 8, 9] rfl)
        exact loop_16 (Int.toNat (z_houses.toInt - 0) + 1) 0 x_9 w_10 _ _ _ ⟨(by show 0 ≤ (0 : Int32).toInt; have k_0 : (0 : Int32).toInt = 0 := (by decide +kernel); omega), (by show (0 : Int32).toInt ≤ z_houses.toInt; have k_0 : (0 : Int32).toInt = 0 := (by decide +kernel); omega)⟩ (by have k_0 : (0 : Int32).toInt = 0 := (by decide +kernel); omega) hw12 (lv_sub hl15 [0, 1, 2, 3, 4, 5, 6, 7] rfl)
  exact loop_7 (Int.toNat (z_n.toInt - 0) + 1) 0 0 z_all _ _ _ ⟨(by show 0 ≤ (0 : Int32).toInt; have k_0 : (0 : Int32).toInt = 0 := (by decide +kernel); omega), (by show (0 : Int32).toInt ≤ z_n.toInt; have k_0 : (0 : Int32).toInt = 0 := (by decide +kernel); omega)⟩ (by have k_0 : (0 : Int32).toInt = 0 := (by decide +kernel); have k_1 : (0 : Int32).toInt = 0 := (by decide +kernel); omega) hw1 (lv_sub hl6 [0, 1, 2, 3, 4, 5, 6] rfl)
set_option maxHeartbeats 4000000 in
set_option maxRecDepth 100000 in
theorem t_follow (l : Launch) (D : va_G) (cI cJ : ClassId) (sz : Nat) (mr : Nat → Nat) (mi : Nat → Int32) (mf : Nat → Nat → Int32) (mg : Nat → Nat → Int64) (z_n : Int32) (mv : Nat → Value) (h0 : 0 ≤ (mi 33).toInt ∧ (mi 33).toInt ≤ 10) (h1 : 0 ≤ (mi 41).toInt ∧ (mi 41).toInt ≤ 40) (h2 : 0 ≤ (mi 50).toInt ∧ (mi 50).toInt ≤ 10) (h3 : 0 ≤ (mi 80).toInt ∧ (mi 80).toInt ≤ 8) (h4 : 1 ≤ z_n.toInt ∧ z_n.toInt ≤ 10) (a_p_from : p9 (mf 37)) (a_p_to : p9 (mf 38)) : Met l yX9_follow (Cond.code yX9_follow cX9_follow 7 (some .long) :: GW) ({ frames := 6, cells := 0, slots := 0, locals := 162 } : Room) (va_Pc [.ref (mr 0), .ref (mr 4), .int z_n] (PW D cI cJ sz (WZ_TVO cI cJ mv mr mi mf mg) xT)) (va_Ql (fun (r : Int64) (u : (Nat → Int32) × (Nat → Int64) × (Nat → Int64) × (Nat → Int32) × (Nat → Int32)) => True) (fun u => QW D cI cJ (va_A (WZ_TVO cI cJ mv mr mi mf mg) sz) ((fun (u : (Nat → Int32) × (Nat → Int64) × (Nat → Int64) × (Nat → Int32) × (Nat → Int32)) => (WZ_TVO cI cJ mv mr mi (va_up (va_up (va_up mf 3 u.1) 42 u.2.2.2.1) 43 u.2.2.2.2) (va_up (va_up mg 1 u.2.1) 2 u.2.2.1))) u)) (va_A (WZ_TVO cI cJ mv mr mi mf mg) sz)) 0 0 (va_A (WZ_TVO cI cJ mv mr mi mf mg) sz) := by
  refine mk_met (y := yX9_follow) (bytes := cX9_follow) (maxL := 7) (avs := [.ref (mr 0), .ref (mr 4), .int z_n]) (WS := (WZ_TVO cI cJ mv mr mi mf mg)) (Qf := fun A => va_Ql (fun (r : Int64) (u : (Nat → Int32) × (Nat → Int64) × (Nat → Int64) × (Nat → Int32) × (Nat → Int32)) => True) (fun u => QW D cI cJ A ((fun (u : (Nat → Int32) × (Nat → Int64) × (Nat → Int64) × (Nat → Int32) × (Nat → Int32)) => (WZ_TVO cI cJ mv mr mi (va_up (va_up (va_up mf 3 u.1) 42 u.2.2.2.1) 43 u.2.2.2.2) (va_up (va_up mg 1 u.2.1) 2 u.2.2.1))) u)) A) (by decide) (Nat.le_of_ble_eq_true rfl) ?_
  intro p e s m below meth c A ls E hr hlk hnm hX hw1 hl2
  have hl3 : lv_has ls 7 [(0, .ref (mr 0)), (1, .ref (mr 4)), (2, .int z_n)] := hl2
  refine lv_aload_n (pc := 0) E.1 E.2.1 dX9_follow_0 rfl (lv_at hl3 1 rfl) ?_
  refine x_get (pc := 1) (T := TX10) (N := 17) (ci := 10) (v := .ref (mr 27)) E hw1 inX10 4 1 q_461 rfl rfl (by decide) rfl rfl dX9_follow_1 ?_
  refine x_get (pc := 4) (T := TX1) (N := 9) (ci := 1) (v := .int (mi 33)) E hw1 inX1 16 5 q_279 rfl rfl (by decide) rfl rfl dX9_follow_4 ?_
  refine lv_istore_n (pc := 7) (lv' := [(3, .int (mi 33)), (0, .ref (mr 0)), (1, .ref (mr 4)), (2, .int z_n)]) E.1 E.2.1 dX9_follow_7 rfl hl3 (by decide) rfl (fun ls hl4 => ?_)
  refine lv_iconst (pc := 8) (v := 0) E.1 E.2.1 dX9_follow_8 (by decide +kernel) ?_
  refine lv_istore (pc := 9) (lv' := [(4, .int 0), (3, .int (mi 33)), (0, .ref (mr 0)), (1, .ref (mr 4)), (2, .int z_n)]) E.1 E.2.1 dX9_follow_9 hl4 (by decide) rfl (fun ls hl5 => ?_)
  have loop_6 : ∀ (k : Nat) (x_7 : Int32) (g_8 : Nat → Int32) (g_9 : Nat → Int32) (g_10 : Nat → Int32) (H : Heap) (locs : List Loc) (ls : Array Slot), (0 ≤ x_7.toInt) ∧ (x_7.toInt ≤ (mi 33).toInt) → (mi 33).toInt - x_7.toInt < (k : Int) → WD D A s.heap (WZ_TVO cI cJ mv mr mi (va_up (va_up (va_up mf 3 g_8) 42 g_9) 43 g_10) mg) H locs → lv_has ls 7 [(4, .int x_7), (3, .int (mi 33)), (0, .ref (mr 0)), (1, .ref (mr 4)), (2, .int z_n)] → W p l e ({ frames := 6, cells := 0, slots := 0, locals := 162 } : Room) s m ([.ref (mr 0), .ref (mr 4), .int z_n] : List Value).toArray below meth c H locs 0 0 (MQ below (va_Ql (fun (r : Int64) (u : (Nat → Int32) × (Nat → Int64) × (Nat → Int64) × (Nat → Int32) × (Nat → Int32)) => True) (fun u => QW D cI cJ A ((fun (u : (Nat → Int32) × (Nat → Int64) × (Nat → Int64) × (Nat → Int32) × (Nat → Int32)) => (WZ_TVO cI cJ mv mr mi (va_up (va_up (va_up mf 3 u.1) 42 u.2.2.2.1) 43 u.2.2.2.2) (va_up (va_up mg 1 u.2.1) 2 u.2.2.1))) u)) A) ([.ref (mr 0), .ref (mr 4), .int z_n] : List Value).toArray s 0 0 A) (F0 m 11 ls []) := by
    intro k
    induction k with
    | zero =>
      intro x_7 g_8 g_9 g_10 _ _ _ hinv hm
      obtain ⟨hi_10_0, hi_10_1⟩ := hinv
      exact absurd hm (by omega)
    | succ k ih_11 =>
      intro x_7 g_8 g_9 g_10 H locs ls hinv hm hw12 hl13
      obtain ⟨hi_10_0, hi_10_1⟩ := hinv
      refine lv_iload (pc := 11) E.1 E.2.1 dX9_follow_11 (lv_at hl13 0 rfl) ?_
      refine lv_iload_n (pc := 13) E.1 E.2.1 dX9_follow_13 rfl (lv_at hl13 1 rfl) ?_
      refine lv_icmp_ge (pc := 14) (tgt := 36) E.1 E.2.1 dX9_follow_14 (by decide) (fun c_14 => ?_) (fun c_14 => ?_)
      · skip
        have hc_14 := leE (a := (mi 33).toInt) (b := x_7.toInt) rfl rfl c_14
        refine lv_iconst (pc := 36) (v := 0) E.1 E.2.1 dX9_follow_36 (by decide +kernel) ?_
        refine lv_istore (pc := 37) (lv' := [(4, .int 0), (3, .int (mi 33)), (0, .ref (mr 0)), (1, .ref (mr 4)), (2, .int z_n)]) E.1 E.2.1 dX9_follow_37 hl13 (by decide) rfl (fun ls hl15 => ?_)
        have loop_16 : ∀ (k : Nat) (x_17 : Int32) (g_18 : Nat → Int64) (H : Heap) (locs : List Loc) (ls : Array Slot), (0 ≤ x_17.toInt) ∧ (x_17.toInt ≤ z_n.toInt) → z_n.toInt - x_17.toInt < (k : Int) → WD D A s.heap (WZ_TVO cI cJ mv mr mi (va_up (va_up (va_up mf 3 g_8) 42 g_9) 43 g_10) (va_up mg 1 g_18)) H locs → lv_has ls 7 [(4, .int x_17), (3, .int (mi 33)), (0, .ref (mr 0)), (1, .ref (mr 4)), (2, .int z_n)] → W p l e ({ frames := 6, cells := 0, slots := 0, locals := 162 } : Room) s m ([.ref (mr 0), .ref (mr 4), .int z_n] : List Value).toArray below meth c H locs 0 0 (MQ below (va_Ql (fun (r : Int64) (u : (Nat → Int32) × (Nat → Int64) × (Nat → Int64) × (Nat → Int32) × (Nat → Int32)) => True) (fun u => QW D cI cJ A ((fun (u : (Nat → Int32) × (Nat → Int64) × (Nat → Int64) × (Nat → Int32) × (Nat → Int32)) => (WZ_TVO cI cJ mv mr mi (va_up (va_up (va_up mf 3 u.1) 42 u.2.2.2.1) 43 u.2.2.2.2) (va_up (va_up mg 1 u.2.1) 2 u.2.2.1))) u)) A) ([.ref (mr 0), .ref (mr 4), .int z_n] : List Value).toArray s 0 0 A) (F0 m 39 ls []) := by
          intro k
          induction k with
          | zero =>
            intro x_17 g_18 _ _ _ hinv hm
            obtain ⟨hi_18_0, hi_18_1⟩ := hinv
            exact absurd hm (by omega)
          | succ k ih_19 =>
            intro x_17 g_18 H locs ls hinv hm hw20 hl21
            obtain ⟨hi_18_0, hi_18_1⟩ := hinv
            refine lv_iload (pc := 39) E.1 E.2.1 dX9_follow_39 (lv_at hl21 0 rfl) ?_
            refine lv_iload_n (pc := 41) E.1 E.2.1 dX9_follow_41 rfl (lv_at hl21 4 rfl) ?_
            refine lv_icmp_ge (pc := 42) (tgt := 86) E.1 E.2.1 dX9_follow_42 (by decide) (fun c_22 => ?_) (fun c_22 => ?_)
            · skip
              have hc_22 := leE (a := z_n.toInt) (b := x_17.toInt) rfl rfl c_22
              refine lv_iload_n (pc := 86) E.1 E.2.1 dX9_follow_86 rfl (lv_at hl21 4 rfl) ?_
              refine lv_iconst (pc := 87) (v := 1) E.1 E.2.1 dX9_follow_87 (by decide +kernel) ?_
              refine lv_isub (pc := 88) E.1 E.2.1 dX9_follow_88 ?_
              refine lv_topi (fun v_23 ev_23 => ?_)
              have hv_23 : v_23.toInt = z_n.toInt - 1 := by rw [ev_23]; exact subE rfl (by decide +kernel) (by omega)
              refine lv_istore (pc := 89) (lv' := [(4, .int v_23), (3, .int (mi 33)), (0, .ref (mr 0)), (1, .ref (mr 4)), (2, .int z_n)]) E.1 E.2.1 dX9_follow_89 hl21 (by decide) rfl (fun ls hl24 => ?_)
              have loop_25 : ∀ (k : Nat) (x_26 : Int32) (g_27 : Nat → Int64) (H : Heap) (locs : List Loc) (ls : Array Slot), ((-1) ≤ x_26.toInt) ∧ (x_26.toInt + 1 ≤ z_n.toInt) → x_26.toInt + 1 < (k : Int) → WD D A s.heap (WZ_TVO cI cJ mv mr mi (va_up (va_up (va_up mf 3 g_8) 42 g_9) 43 g_10) (va_up (va_up mg 1 g_18) 2 g_27)) H locs → lv_has ls 7 [(4, .int x_26), (3, .int (mi 33)), (0, .ref (mr 0)), (1, .ref (mr 4)), (2, .int z_n)] → W p l e ({ frames := 6, cells := 0, slots := 0, locals := 162 } : Room) s m ([.ref (mr 0), .ref (mr 4), .int z_n] : List Value).toArray below meth c H locs 0 0 (MQ below (va_Ql (fun (r : Int64) (u : (Nat → Int32) × (Nat → Int64) × (Nat → Int64) × (Nat → Int32) × (Nat → Int32)) => True) (fun u => QW D cI cJ A ((fun (u : (Nat → Int32) × (Nat → Int64) × (Nat → Int64) × (Nat → Int32) × (Nat → Int32)) => (WZ_TVO cI cJ mv mr mi (va_up (va_up (va_up mf 3 u.1) 42 u.2.2.2.1) 43 u.2.2.2.2) (va_up (va_up mg 1 u.2.1) 2 u.2.2.1))) u)) A) ([.ref (mr 0), .ref (mr 4), .int z_n] : List Value).toArray s 0 0 A) (F0 m 91 ls []) := by
                intro k
                induction k with
                | zero =>
                  intro x_26 g_27 _ _ _ hinv hm
                  obtain ⟨hi_27_0, hi_27_1⟩ := hinv
                  exact absurd hm (by omega)
                | succ k ih_28 =>
                  intro x_26 g_27 H locs ls hinv hm hw29 hl30
                  obtain ⟨hi_27_0, hi_27_1⟩ := hinv
                  refine lv_iload (pc := 91) E.1 E.2.1 dX9_follow_91 (lv_at hl30 0 rfl) ?_
                  refine lv_if_lt (pc := 93) (tgt := 149) E.1 E.2.1 dX9_follow_93 (by decide) (fun c_31 => ?_) (fun c_31 => ?_)
                  · skip
                    have hc_31 := ltE (a := x_26.toInt) (b := 0) rfl (by decide +kernel) c_31
                    refine lv_lconst (pc := 149) (v := 0) E.1 E.2.1 dX9_follow_149 (by decide +kernel) ?_
                    refine lv_lstore (pc := 150) (lv' := [(4, .long 0), (3, .int (mi 33)), (0, .ref (mr 0)), (1, .ref (mr 4)), (2, .int z_n)]) E.1 E.2.1 dX9_follow_150 hl30 (by decide) rfl (fun ls hl32 => ?_)
                    refine lv_iconst (pc := 152) (v := 0) E.1 E.2.1 dX9_follow_152 (by decide +kernel) ?_
                    refine lv_istore (pc := 153) (lv' := [(6, .int 0), (4, .long 0), (3, .int (mi 33)), (0, .ref (mr 0)), (1, .ref (mr 4)), (2, .int z_n)]) E.1 E.2.1 dX9_follow_153 hl32 (by decide) rfl (fun ls hl33 => ?_)
                    have loop_34 : ∀ (k : Nat) (x_35 : Int32) (w_36 : Int64) (H : Heap) (locs : List Loc) (ls : Array Slot), (0 ≤ x_35.toInt) ∧ (x_35.toInt ≤ (mi 33).toInt) → (mi 33).toInt - x_35.toInt < (k : Int) → WD D A s.heap (WZ_TVO cI cJ mv mr mi (va_up (va_up (va_up mf 3 g_8) 42 g_9) 43 g_10) (va_up (va_up mg 1 g_18) 2 g_27)) H locs → lv_has ls 7 [(6, .int x_35), (4, .long w_36), (3, .int (mi 33)), (0, .ref (mr 0)), (1, .ref (mr 4)), (2, .int z_n)] → W p l e ({ frames := 6, cells := 0, slots := 0, locals := 162 } : Room) s m ([.ref (mr 0), .ref (mr 4), .int z_n] : List Value).toArray below meth c H locs 0 0 (MQ below (va_Ql (fun (r : Int64) (u : (Nat → Int32) × (Nat → Int64) × (Nat → Int64) × (Nat → Int32) × (Nat → Int32)) => True) (fun u => QW D cI cJ A ((fun (u : (Nat → Int32) × (Nat → Int64) × (Nat → Int64) × (Nat → Int32) × (Nat → Int32)) => (WZ_TVO cI cJ mv mr mi (va_up (va_up (va_up mf 3 u.1) 42 u.2.2.2.1) 43 u.2.2.2.2) (va_up (va_up mg 1 u.2.1) 2 u.2.2.1))) u)) A) ([.ref (mr 0), .ref (mr 4), .int z_n] : List Value).toArray s 0 0 A) (F0 m 155 ls []) := by
                      intro k
                      induction k with
                      | zero =>
                        intro x_35 w_36 _ _ _ hinv hm
                        obtain ⟨hi_36_0, hi_36_1⟩ := hinv
                        exact absurd hm (by omega)
                      | succ k ih_37 =>
                        intro x_35 w_36 H locs ls hinv hm hw38 hl39
                        obtain ⟨hi_36_0, hi_36_1⟩ := hinv
                        refine lv_iload (pc := 155) E.1 E.2.1 dX9_follow_155 (lv_at hl39 0 rfl) ?_
                        refine lv_iload_n (pc := 157) E.1 E.2.1 dX9_follow_157 rfl (lv_at hl39 2 rfl) ?_
                        refine lv_icmp_ge (pc := 158) (tgt := 179) E.1 E.2.1 dX9_follow_158 (by decide) (fun c_40 => ?_) (fun c_40 => ?_)
                        · skip
                          have hc_40 := leE (a := (mi 33).toInt) (b := x_35.toInt) rfl rfl c_40
                          refine lv_lload (pc := 179) E.1 E.2.1 dX9_follow_179 (lv_at hl39 1 rfl) ?_
                          exact em_l (w1 := (fun (u : (Nat → Int32) × (Nat → Int64) × (Nat → Int64) × (Nat → Int32) × (Nat → Int32)) => (WZ_TVO cI cJ mv mr mi (va_up (va_up (va_up mf 3 u.1) 42 u.2.2.2.1) 43 u.2.2.2.2) (va_up (va_up mg 1 u.2.1) 2 u.2.2.1)))) E hr hlk (g_8, g_18, g_27, g_9, g_10) hw38 trivial (Nat.le_of_ble_eq_true rfl) (Nat.le_of_ble_eq_true rfl) dX9_follow_181
                        · skip
                          have hc_40 := nleE (a := (mi 33).toInt) (b := x_35.toInt) rfl rfl c_40
                          refine lv_lload (pc := 161) E.1 E.2.1 dX9_follow_161 (lv_at hl39 1 rfl) ?_
                          refine lv_aload_n (pc := 163) E.1 E.2.1 dX9_follow_163 rfl (lv_at hl39 3 rfl) ?_
                          refine x_get (pc := 164) (T := TX9) (N := 3) (ci := 9) (v := .ref (mr 2)) E hw38 inX9 0 1 q_595 rfl rfl (by decide) rfl rfl dX9_follow_164 ?_
                          refine lv_iload (pc := 167) E.1 E.2.1 dX9_follow_167 (lv_at hl39 0 rfl) ?_
                          refine x_lald (pc := 169) (f := g_27) E hw38 2 rfl (inbE (a := x_35.toInt) rfl (by omega)) dX9_follow_169 (fun w_41 => ?_)
                          refine lv_ladd (pc := 170) E.1 E.2.1 dX9_follow_170 ?_
                          refine lv_topl (fun w_42 ew_42 => ?_)
                          refine lv_lstore (pc := 171) (lv' := [(4, .long w_42), (6, .int x_35), (3, .int (mi 33)), (0, .ref (mr 0)), (1, .ref (mr 4)), (2, .int z_n)]) E.1 E.2.1 dX9_follow_171 hl39 (by decide) rfl (fun ls hl43 => ?_)
                          obtain ⟨v_44, ev_44⟩ : ∃ z : Int32, x_35 + Int32.ofInt (1) = z := ⟨_, rfl⟩
                          have hv_44 : v_44.toInt = x_35.toInt + (1) := by rw [← ev_44]; exact incE rfl (by decide) (by omega)
                          refine lv_iinc (pc := 173) (v := v_44) (lv' := [(6, .int v_44), (4, .long w_42), (3, .int (mi 33)), (0, .ref (mr 0)), (1, .ref (mr 4)), (2, .int z_n)]) E.1 E.2.1 dX9_follow_173 hl43 (k := 1) rfl ev_44 (by decide) rfl (fun ls hl45 => ?_)
                          refine lv_goto (pc := 176) (tgt := 155) E.1 E.2.1 dX9_follow_176 (by decide) ?_
                          exact ih_37 v_44 w_42 _ _ _ ⟨(by show 0 ≤ v_44.toInt; omega), (by show v_44.toInt ≤ (mi 33).toInt; omega)⟩ (by omega) hw38 (lv_sub hl45 [0, 1, 2, 3, 4, 5] rfl)
                    exact loop_34 (Int.toNat ((mi 33).toInt - 0) + 1) 0 0 _ _ _ ⟨(by show 0 ≤ (0 : Int32).toInt; have k_0 : (0 : Int32).toInt = 0 := (by decide +kernel); omega), (by show (0 : Int32).toInt ≤ (mi 33).toInt; have k_0 : (0 : Int32).toInt = 0 := (by decide +kernel); omega)⟩ (by have k_0 : (0 : Int32).toInt = 0 := (by decide +kernel); omega) hw29 (lv_sub hl33 [0, 1, 2, 3, 4, 5] rfl)
                  · skip
                    have hc_31 := nltE (a := x_26.toInt) (b := 0) rfl (by decide +kernel) c_31
                    refine lv_aload_n (pc := 96) E.1 E.2.1 dX9_follow_96 rfl (lv_at hl30 3 rfl) ?_
                    refine x_get (pc := 97) (T := TX10) (N := 17) (ci := 10) (v := .ref (mr 77)) E hw29 inX10 4 7 q_477 rfl rfl (by decide) rfl rfl dX9_follow_97 ?_
                    refine lv_iload (pc := 100) E.1 E.2.1 dX9_follow_100 (lv_at hl30 0 rfl) ?_
                    refine lv_aload_n (pc := 102) E.1 E.2.1 dX9_follow_102 rfl (lv_at hl30 3 rfl) ?_
                    refine x_get (pc := 103) (T := TX10) (N := 17) (ci := 10) (v := .ref (mr 27)) E hw29 inX10 4 1 q_461 rfl rfl (by decide) rfl rfl dX9_follow_103 ?_
                    refine ck_i (pc := 106) (ws' := (fun (u : Unit) => (WZ_TVO cI cJ mv mr mi (va_up (va_up (va_up mf 3 g_8) 42 g_9) 43 g_10) (va_up (va_up mg 1 g_18) 2 g_27)))) [false, false, false, false, false, false, false, false, false, false, false, false, false, false, false, false, true, true, true, true, true, true, true, true, false, false, false, false, false, false, false, false, false, false, false, false, false, false, false, false, false, false, false, false, false, false, false, false, false, false, false, false, false, false] hw29 rfl (fun hC_ => (rn_V (As := []) (rest := [.int x_26, .ref (mr 77)]) E hw29 (t_all l D cI cJ _ (shf 27 mr) (shf 27 mi) (shf 27 (va_up (va_up (va_up mf 3 g_8) 42 g_9) 43 g_10)) (shf 27 (va_up (va_up mg 1 g_18) 2 g_27)) (vl [mv 0]) h0) (gdV q_1333 q_1281 q_1282 q_154 q_1283) hdV_X1_all ⟨rfl, rfl⟩ ⟨(Nat.le_of_ble_eq_true rfl), (Nat.le_of_ble_eq_true rfl)⟩ ⟨(Nat.le_of_ble_eq_true rfl), (Nat.le_of_ble_eq_true rfl)⟩ xT_b xT_at 16 1 rfl rfl rfl _ hC_ (nd_T _ 0) rfl hl30.1 rfl (Nat.le_of_ble_eq_true rfl) dX9_follow_106)) rfl (fun _ => rfl) (fun _ => rfl) (fun r_47 u_46 H1 locs hp hw48 => ?_)
                    generalize H1 = H at hw48 ⊢
                    have hw49 : WD D A s.heap (WZ_TVO cI cJ mv mr mi (va_up (va_up (va_up mf 3 g_8) 42 g_9) 43 g_10) (va_up (va_up mg 1 g_18) 2 g_27)) H locs := hw48
                    obtain ⟨hp_50, hp_51⟩ := hp
                    have hp_50 : 0 ≤ r_47.toInt := hp_50
                    have hp_51 : r_47.toInt ≤ 1023 := hp_51
                    refine ck_i (pc := 109) (ws' := (fun (u : Unit) => (WZ_TVO cI cJ mv mr mi (va_up (va_up (va_up mf 3 g_8) 42 g_9) 43 g_10) (va_up (va_up mg 1 g_18) 2 g_27)))) [false, false, false, false, false, false, false, false, false, false, false, false, false, false, false, false, false, false, false, false, false, false, false, false, false, false, false, false, false, false, false, false, false, false, false, false, false, false, false, false, false, false, false, false, false, false, false, false, false, false, false, true, true, true] hw49 rfl (fun hC_ => (rn_V (As := [.int x_26, .int r_47]) (rest := []) E hw49 (t_left l D cI cJ _ (shf 77 mr) (shf 77 mi) (shf 77 (va_up (va_up (va_up mf 3 g_8) 42 g_9) 43 g_10)) (shf 77 (va_up (va_up mg 1 g_18) 2 g_27)) x_26 r_47 h3) (gdV q_1334 q_1335 q_1336 q_159 q_1337) hdV_X0_left ⟨rfl, rfl⟩ ⟨(Nat.le_of_ble_eq_true rfl), (Nat.le_of_ble_eq_true rfl)⟩ ⟨(Nat.le_of_ble_eq_true rfl), (Nat.le_of_ble_eq_true rfl)⟩ xT_b xT_at 51 0 rfl rfl rfl _ hC_ (nd_T _ 0) rfl hl30.1 rfl (Nat.le_of_ble_eq_true rfl) dX9_follow_109)) rfl (fun _ => rfl) (fun _ => rfl) (fun r_53 u_52 H1 locs hp hw54 => ?_)
                    generalize H1 = H at hw54 ⊢
                    have hw55 : WD D A s.heap (WZ_TVO cI cJ mv mr mi (va_up (va_up (va_up mf 3 g_8) 42 g_9) 43 g_10) (va_up (va_up mg 1 g_18) 2 g_27)) H locs := hw54
                    refine lv_istore (pc := 112) (lv' := [(5, .int r_53), (4, .int x_26), (3, .int (mi 33)), (0, .ref (mr 0)), (1, .ref (mr 4)), (2, .int z_n)]) E.1 E.2.1 dX9_follow_112 hl30 (by decide) rfl (fun ls hl56 => ?_)
                    refine lv_aload_n (pc := 114) E.1 E.2.1 dX9_follow_114 rfl (lv_at hl56 3 rfl) ?_
                    refine lv_aload_n (pc := 115) E.1 E.2.1 dX9_follow_115 rfl (lv_at hl56 3 rfl) ?_
                    refine x_get (pc := 116) (T := TX9) (N := 3) (ci := 9) (v := .ref (mr 2)) E hw55 inX9 0 1 q_595 rfl rfl (by decide) rfl rfl dX9_follow_116 ?_
                    refine lv_iload (pc := 119) E.1 E.2.1 dX9_follow_119 (lv_at hl56 1 rfl) ?_
                    refine lv_iload (pc := 121) E.1 E.2.1 dX9_follow_121 (lv_at hl56 1 rfl) ?_
                    refine lv_iconst (pc := 123) (v := 1) E.1 E.2.1 dX9_follow_123 (by decide +kernel) ?_
                    refine lv_iadd (pc := 124) E.1 E.2.1 dX9_follow_124 ?_
                    refine lv_topi (fun v_57 ev_57 => ?_)
                    have hv_57 : v_57.toInt = x_26.toInt + 1 := by rw [ev_57]; exact addE rfl (by decide +kernel) (by omega)
                    refine lv_iload_n (pc := 125) E.1 E.2.1 dX9_follow_125 rfl (lv_at hl56 5 rfl) ?_
                    refine lv_icmp_ge (pc := 126) (tgt := 136) E.1 E.2.1 dX9_follow_126 (by decide) (fun c_58 => ?_) (fun c_58 => ?_)
                    · skip
                      have hc_58 := leE (a := z_n.toInt) (b := v_57.toInt) rfl rfl c_58
                      refine lv_iconst (pc := 136) (v := (-1)) E.1 E.2.1 dX9_follow_136 (by decide +kernel) ?_
                      refine lv_iload (pc := 137) E.1 E.2.1 dX9_follow_137 (lv_at hl56 0 rfl) ?_
                      refine lv_iload_n (pc := 139) E.1 E.2.1 dX9_follow_139 rfl (lv_at hl56 2 rfl) ?_
                      refine ck_v (pc := 140) (ws' := (fun (u : (Nat → Int64)) => (WZ_TVO cI cJ mv mr mi (va_up (va_up (va_up mf 3 g_8) 42 g_9) 43 g_10) (va_up (va_up mg 1 g_18) 2 u)))) [true, true, true, true, false, false, false, false, false, false, false, false, false, false, false, false, false, false, false, false, false, false, false, false, false, false, false, false, false, false, false, false, false, false, false, false, false, false, false, false, false, false, false, false, false, false, false, false, false, false, false, false, false, false] hw55 rfl (fun hC_ => (rn_V (As := [.ref (mr 2), .int x_26, .int (-1), .int r_53, .int (mi 33)]) (rest := []) E hw55 (t_fill_going l D cI cJ _ mr mi (va_up (va_up (va_up mf 3 g_8) 42 g_9) 43 g_10) (va_up (va_up mg 1 g_18) 2 g_27) x_26 (-1) r_53 (mi 33) (by show 0 ≤ x_26.toInt ∧ x_26.toInt ≤ 9; omega) (by show (-1) ≤ ((-1) : Int32).toInt ∧ ((-1) : Int32).toInt ≤ 9; have k_0 : ((-1) : Int32).toInt = -1 := (by decide +kernel); omega) h0) (gdV q_1338 q_1340 q_45 q_161 q_1341) hdV_X9_fill ⟨rfl, rfl⟩ ⟨(Nat.le_of_ble_eq_true rfl), (Nat.le_of_ble_eq_true rfl)⟩ ⟨(Nat.le_of_ble_eq_true rfl), (Nat.le_of_ble_eq_true rfl)⟩ xT_b xT_at 0 9 rfl rfl rfl _ hC_ (nd_T _ 0) rfl hl56.1 rfl (Nat.le_of_ble_eq_true rfl) dX9_follow_140)) rfl (fun _ => rfl) (fun _ => rfl) (fun u_59 H1 locs hp hw61 => ?_)
                      obtain ⟨ggoing_62, rfl⟩ : ∃ z, z = u_59 := ⟨_, rfl⟩
                      generalize H1 = H at hw61 ⊢
                      have hw63 : WD D A s.heap (WZ_TVO cI cJ mv mr mi (va_up (va_up (va_up mf 3 g_8) 42 g_9) 43 g_10) (va_up (va_up mg 1 g_18) 2 ggoing_62)) H locs := hw61
                      obtain ⟨v_64, ev_64⟩ : ∃ z : Int32, x_26 + Int32.ofInt (-1) = z := ⟨_, rfl⟩
                      have hv_64 : v_64.toInt = x_26.toInt + (-1) := by rw [← ev_64]; exact incE rfl (by decide) (by omega)
                      refine lv_iinc (pc := 143) (v := v_64) (lv' := [(4, .int v_64), (5, .int r_53), (3, .int (mi 33)), (0, .ref (mr 0)), (1, .ref (mr 4)), (2, .int z_n)]) E.1 E.2.1 dX9_follow_143 hl56 (k := 1) rfl ev_64 (by decide) rfl (fun ls hl65 => ?_)
                      refine lv_goto (pc := 146) (tgt := 91) E.1 E.2.1 dX9_follow_146 (by decide) ?_
                      exact ih_28 v_64 ggoing_62 _ _ _ ⟨(by show (-1) ≤ v_64.toInt; omega), (by show v_64.toInt + 1 ≤ z_n.toInt; omega)⟩ (by omega) hw63 (lv_sub hl65 [0, 2, 3, 4, 5] rfl)
                    · skip
                      have hc_58 := nleE (a := z_n.toInt) (b := v_57.toInt) rfl rfl c_58
                      refine lv_iload (pc := 129) E.1 E.2.1 dX9_follow_129 (lv_at hl56 1 rfl) ?_
                      refine lv_iconst (pc := 131) (v := 1) E.1 E.2.1 dX9_follow_131 (by decide +kernel) ?_
                      refine lv_iadd (pc := 132) E.1 E.2.1 dX9_follow_132 ?_
                      refine lv_topi (fun v_66 ev_66 => ?_)
                      have hv_66 : v_66.toInt = x_26.toInt + 1 := by rw [ev_66]; exact addE rfl (by decide +kernel) (by omega)
                      refine lv_goto (pc := 133) (tgt := 137) E.1 E.2.1 dX9_follow_133 (by decide) ?_
                      refine lv_iload (pc := 137) E.1 E.2.1 dX9_follow_137 (lv_at hl56 0 rfl) ?_
                      refine lv_iload_n (pc := 139) E.1 E.2.1 dX9_follow_139 rfl (lv_at hl56 2 rfl) ?_
                      refine ck_v (pc := 140) (ws' := (fun (u : (Nat → Int64)) => (WZ_TVO cI cJ mv mr mi (va_up (va_up (va_up mf 3 g_8) 42 g_9) 43 g_10) (va_up (va_up mg 1 g_18) 2 u)))) [true, true, true, true, false, false, false, false, false, false, false, false, false, false, false, false, false, false, false, false, false, false, false, false, false, false, false, false, false, false, false, false, false, false, false, false, false, false, false, false, false, false, false, false, false, false, false, false, false, false, false, false, false, false] hw55 rfl (fun hC_ => (rn_V (As := [.ref (mr 2), .int x_26, .int v_66, .int r_53, .int (mi 33)]) (rest := []) E hw55 (t_fill_going l D cI cJ _ mr mi (va_up (va_up (va_up mf 3 g_8) 42 g_9) 43 g_10) (va_up (va_up mg 1 g_18) 2 g_27) x_26 v_66 r_53 (mi 33) (by show 0 ≤ x_26.toInt ∧ x_26.toInt ≤ 9; omega) (by show (-1) ≤ v_66.toInt ∧ v_66.toInt ≤ 9; omega) h0) (gdV q_1338 q_1340 q_45 q_161 q_1341) hdV_X9_fill ⟨rfl, rfl⟩ ⟨(Nat.le_of_ble_eq_true rfl), (Nat.le_of_ble_eq_true rfl)⟩ ⟨(Nat.le_of_ble_eq_true rfl), (Nat.le_of_ble_eq_true rfl)⟩ xT_b xT_at 0 9 rfl rfl rfl _ hC_ (nd_T _ 0) rfl hl56.1 rfl (Nat.le_of_ble_eq_true rfl) dX9_follow_140)) rfl (fun _ => rfl) (fun _ => rfl) (fun u_67 H1 locs hp hw69 => ?_)
                      obtain ⟨ggoing_70, rfl⟩ : ∃ z, z = u_67 := ⟨_, rfl⟩
                      generalize H1 = H at hw69 ⊢
                      have hw71 : WD D A s.heap (WZ_TVO cI cJ mv mr mi (va_up (va_up (va_up mf 3 g_8) 42 g_9) 43 g_10) (va_up (va_up mg 1 g_18) 2 ggoing_70)) H locs := hw69
                      obtain ⟨v_72, ev_72⟩ : ∃ z : Int32, x_26 + Int32.ofInt (-1) = z := ⟨_, rfl⟩
                      have hv_72 : v_72.toInt = x_26.toInt + (-1) := by rw [← ev_72]; exact incE rfl (by decide) (by omega)
                      refine lv_iinc (pc := 143) (v := v_72) (lv' := [(4, .int v_72), (5, .int r_53), (3, .int (mi 33)), (0, .ref (mr 0)), (1, .ref (mr 4)), (2, .int z_n)]) E.1 E.2.1 dX9_follow_143 hl56 (k := 1) rfl ev_72 (by decide) rfl (fun ls hl73 => ?_)
                      refine lv_goto (pc := 146) (tgt := 91) E.1 E.2.1 dX9_follow_146 (by decide) ?_
                      exact ih_28 v_72 ggoing_70 _ _ _ ⟨(by show (-1) ≤ v_72.toInt; omega), (by show v_72.toInt + 1 ≤ z_n.toInt; omega)⟩ (by omega) hw71 (lv_sub hl73 [0, 2, 3, 4, 5] rfl)
              exact loop_25 (Int.toNat (v_23.toInt + 1) + 1) v_23 (mg 2) _ _ _ ⟨(by show (-1) ≤ v_23.toInt; omega), (by show v_23.toInt + 1 ≤ z_n.toInt; omega)⟩ (by omega) hw20 (lv_sub hl24 [0, 1, 2, 3, 4] rfl)
            · skip
              have hc_22 := nleE (a := z_n.toInt) (b := x_17.toInt) rfl rfl c_22
              refine lv_aload_n (pc := 45) E.1 E.2.1 dX9_follow_45 rfl (lv_at hl21 3 rfl) ?_
              refine x_get (pc := 46) (T := TX10) (N := 17) (ci := 10) (v := .ref (mr 77)) E hw20 inX10 4 7 q_477 rfl rfl (by decide) rfl rfl dX9_follow_46 ?_
              refine lv_iload (pc := 49) E.1 E.2.1 dX9_follow_49 (lv_at hl21 0 rfl) ?_
              refine lv_aload_n (pc := 51) E.1 E.2.1 dX9_follow_51 rfl (lv_at hl21 3 rfl) ?_
              refine x_get (pc := 52) (T := TX10) (N := 17) (ci := 10) (v := .ref (mr 27)) E hw20 inX10 4 1 q_461 rfl rfl (by decide) rfl rfl dX9_follow_52 ?_
              refine ck_i (pc := 55) (ws' := (fun (u : Unit) => (WZ_TVO cI cJ mv mr mi (va_up (va_up (va_up mf 3 g_8) 42 g_9) 43 g_10) (va_up mg 1 g_18)))) [false, false, false, false, false, false, false, false, false, false, false, false, false, false, false, false, true, true, true, true, true, true, true, true, false, false, false, false, false, false, false, false, false, false, false, false, false, false, false, false, false, false, false, false, false, false, false, false, false, false, false, false, false, false] hw20 rfl (fun hC_ => (rn_V (As := []) (rest := [.int x_17, .ref (mr 77)]) E hw20 (t_all l D cI cJ _ (shf 27 mr) (shf 27 mi) (shf 27 (va_up (va_up (va_up mf 3 g_8) 42 g_9) 43 g_10)) (shf 27 (va_up mg 1 g_18)) (vl [mv 0]) h0) (gdV q_1333 q_1281 q_1282 q_154 q_1283) hdV_X1_all ⟨rfl, rfl⟩ ⟨(Nat.le_of_ble_eq_true rfl), (Nat.le_of_ble_eq_true rfl)⟩ ⟨(Nat.le_of_ble_eq_true rfl), (Nat.le_of_ble_eq_true rfl)⟩ xT_b xT_at 16 1 rfl rfl rfl _ hC_ (nd_T _ 0) rfl hl21.1 rfl (Nat.le_of_ble_eq_true rfl) dX9_follow_55)) rfl (fun _ => rfl) (fun _ => rfl) (fun r_75 u_74 H1 locs hp hw76 => ?_)
              generalize H1 = H at hw76 ⊢
              have hw77 : WD D A s.heap (WZ_TVO cI cJ mv mr mi (va_up (va_up (va_up mf 3 g_8) 42 g_9) 43 g_10) (va_up mg 1 g_18)) H locs := hw76
              obtain ⟨hp_78, hp_79⟩ := hp
              have hp_78 : 0 ≤ r_75.toInt := hp_78
              have hp_79 : r_75.toInt ≤ 1023 := hp_79
              refine ck_i (pc := 58) (ws' := (fun (u : Unit) => (WZ_TVO cI cJ mv mr mi (va_up (va_up (va_up mf 3 g_8) 42 g_9) 43 g_10) (va_up mg 1 g_18)))) [false, false, false, false, false, false, false, false, false, false, false, false, false, false, false, false, false, false, false, false, false, false, false, false, false, false, false, false, false, false, false, false, false, false, false, false, false, false, false, false, false, false, false, false, false, false, false, false, false, false, false, true, true, true] hw77 rfl (fun hC_ => (rn_V (As := [.int x_17, .int r_75]) (rest := []) E hw77 (t_left l D cI cJ _ (shf 77 mr) (shf 77 mi) (shf 77 (va_up (va_up (va_up mf 3 g_8) 42 g_9) 43 g_10)) (shf 77 (va_up mg 1 g_18)) x_17 r_75 h3) (gdV q_1334 q_1335 q_1336 q_159 q_1337) hdV_X0_left ⟨rfl, rfl⟩ ⟨(Nat.le_of_ble_eq_true rfl), (Nat.le_of_ble_eq_true rfl)⟩ ⟨(Nat.le_of_ble_eq_true rfl), (Nat.le_of_ble_eq_true rfl)⟩ xT_b xT_at 51 0 rfl rfl rfl _ hC_ (nd_T _ 0) rfl hl21.1 rfl (Nat.le_of_ble_eq_true rfl) dX9_follow_58)) rfl (fun _ => rfl) (fun _ => rfl) (fun r_81 u_80 H1 locs hp hw82 => ?_)
              generalize H1 = H at hw82 ⊢
              have hw83 : WD D A s.heap (WZ_TVO cI cJ mv mr mi (va_up (va_up (va_up mf 3 g_8) 42 g_9) 43 g_10) (va_up mg 1 g_18)) H locs := hw82
              refine lv_istore (pc := 61) (lv' := [(5, .int r_81), (4, .int x_17), (3, .int (mi 33)), (0, .ref (mr 0)), (1, .ref (mr 4)), (2, .int z_n)]) E.1 E.2.1 dX9_follow_61 hl21 (by decide) rfl (fun ls hl84 => ?_)
              refine lv_aload_n (pc := 63) E.1 E.2.1 dX9_follow_63 rfl (lv_at hl84 3 rfl) ?_
              refine lv_aload_n (pc := 64) E.1 E.2.1 dX9_follow_64 rfl (lv_at hl84 3 rfl) ?_
              refine x_get (pc := 65) (T := TX9) (N := 3) (ci := 9) (v := .ref (mr 1)) E hw83 inX9 0 0 q_594 rfl rfl (by decide) rfl rfl dX9_follow_65 ?_
              refine lv_iload (pc := 68) E.1 E.2.1 dX9_follow_68 (lv_at hl84 1 rfl) ?_
              refine lv_iload (pc := 70) E.1 E.2.1 dX9_follow_70 (lv_at hl84 1 rfl) ?_
              refine lv_iconst (pc := 72) (v := 1) E.1 E.2.1 dX9_follow_72 (by decide +kernel) ?_
              refine lv_isub (pc := 73) E.1 E.2.1 dX9_follow_73 ?_
              refine lv_topi (fun v_85 ev_85 => ?_)
              have hv_85 : v_85.toInt = x_17.toInt - 1 := by rw [ev_85]; exact subE rfl (by decide +kernel) (by omega)
              refine lv_iload (pc := 74) E.1 E.2.1 dX9_follow_74 (lv_at hl84 0 rfl) ?_
              refine lv_iload_n (pc := 76) E.1 E.2.1 dX9_follow_76 rfl (lv_at hl84 2 rfl) ?_
              refine ck_v (pc := 77) (ws' := (fun (u : (Nat → Int64)) => (WZ_TVO cI cJ mv mr mi (va_up (va_up (va_up mf 3 g_8) 42 g_9) 43 g_10) (va_up mg 1 u)))) [true, true, true, true, false, false, false, false, false, false, false, false, false, false, false, false, false, false, false, false, false, false, false, false, false, false, false, false, false, false, false, false, false, false, false, false, false, false, false, false, false, false, false, false, false, false, false, false, false, false, false, false, false, false] hw83 rfl (fun hC_ => (rn_V (As := [.ref (mr 1), .int x_17, .int v_85, .int r_81, .int (mi 33)]) (rest := []) E hw83 (t_fill_leading l D cI cJ _ mr mi (va_up (va_up (va_up mf 3 g_8) 42 g_9) 43 g_10) (va_up mg 1 g_18) x_17 v_85 r_81 (mi 33) (by show 0 ≤ x_17.toInt ∧ x_17.toInt ≤ 9; omega) (by show (-1) ≤ v_85.toInt ∧ v_85.toInt ≤ 9; omega) h0) (gdV q_1338 q_1340 q_45 q_161 q_1341) hdV_X9_fill ⟨rfl, rfl⟩ ⟨(Nat.le_of_ble_eq_true rfl), (Nat.le_of_ble_eq_true rfl)⟩ ⟨(Nat.le_of_ble_eq_true rfl), (Nat.le_of_ble_eq_true rfl)⟩ xT_b xT_at 0 9 rfl rfl rfl _ hC_ (nd_T _ 0) rfl hl84.1 rfl (Nat.le_of_ble_eq_true rfl) dX9_follow_77)) rfl (fun _ => rfl) (fun _ => rfl) (fun u_86 H1 locs hp hw88 => ?_)
              obtain ⟨gleading_89, rfl⟩ : ∃ z, z = u_86 := ⟨_, rfl⟩
              generalize H1 = H at hw88 ⊢
              have hw90 : WD D A s.heap (WZ_TVO cI cJ mv mr mi (va_up (va_up (va_up mf 3 g_8) 42 g_9) 43 g_10) (va_up mg 1 gleading_89)) H locs := hw88
              obtain ⟨v_91, ev_91⟩ : ∃ z : Int32, x_17 + Int32.ofInt (1) = z := ⟨_, rfl⟩
              have hv_91 : v_91.toInt = x_17.toInt + (1) := by rw [← ev_91]; exact incE rfl (by decide) (by omega)
              refine lv_iinc (pc := 80) (v := v_91) (lv' := [(4, .int v_91), (5, .int r_81), (3, .int (mi 33)), (0, .ref (mr 0)), (1, .ref (mr 4)), (2, .int z_n)]) E.1 E.2.1 dX9_follow_80 hl84 (k := 1) rfl ev_91 (by decide) rfl (fun ls hl92 => ?_)
              refine lv_goto (pc := 83) (tgt := 39) E.1 E.2.1 dX9_follow_83 (by decide) ?_
              exact ih_19 v_91 gleading_89 _ _ _ ⟨(by show 0 ≤ v_91.toInt; omega), (by show v_91.toInt ≤ z_n.toInt; omega)⟩ (by omega) hw90 (lv_sub hl92 [0, 2, 3, 4, 5] rfl)
        exact loop_16 (Int.toNat (z_n.toInt - 0) + 1) 0 (mg 1) _ _ _ ⟨(by show 0 ≤ (0 : Int32).toInt; have k_0 : (0 : Int32).toInt = 0 := (by decide +kernel); omega), (by show (0 : Int32).toInt ≤ z_n.toInt; have k_0 : (0 : Int32).toInt = 0 := (by decide +kernel); omega)⟩ (by have k_0 : (0 : Int32).toInt = 0 := (by decide +kernel); omega) hw12 (lv_sub hl15 [0, 1, 2, 3, 4] rfl)
      · skip
        have hc_14 := nleE (a := (mi 33).toInt) (b := x_7.toInt) rfl rfl c_14
        refine lv_aload_n (pc := 17) E.1 E.2.1 dX9_follow_17 rfl (lv_at hl13 2 rfl) ?_
        refine x_get (pc := 18) (T := TX9) (N := 3) (ci := 9) (v := .ref (mr 3)) E hw12 inX9 0 2 q_596 rfl rfl (by decide) rfl rfl dX9_follow_18 ?_
        refine lv_iload (pc := 21) E.1 E.2.1 dX9_follow_21 (lv_at hl13 0 rfl) ?_
        refine lv_aload_n (pc := 23) E.1 E.2.1 dX9_follow_23 rfl (lv_at hl13 3 rfl) ?_
        refine lv_iload (pc := 24) E.1 E.2.1 dX9_follow_24 (lv_at hl13 0 rfl) ?_
        refine ck_i (pc := 26) (ws' := (fun (u : (Nat → Int32) × (Nat → Int32)) => (WZ_TVO cI cJ mv mr mi (va_up (va_up (va_up mf 3 g_8) 42 u.1) 43 u.2) mg))) [false, false, false, false, true, true, true, true, true, true, true, true, true, true, true, true, true, true, true, true, true, true, true, true, true, true, true, true, true, true, true, true, true, true, true, true, true, true, true, true, true, true, true, true, true, true, true, true, true, true, true, true, true, true] hw12 rfl (fun hC_ => (rn_V (As := [.int x_7]) (rest := [.int x_7, .ref (mr 3)]) E hw12 (t_reachedSet l D cI cJ _ (shf 4 mr) (shf 4 mi) (shf 4 (va_up (va_up (va_up mf 3 g_8) 42 g_9) 43 g_10)) (shf 4 mg) x_7 (vl [mv 0]) h0 h1 h2 a_p_from a_p_to) (gdV q_1332 q_1108 q_1109 q_152 q_1110) hdV_X10_reachedSet ⟨rfl, rfl⟩ ⟨(Nat.le_of_ble_eq_true rfl), (Nat.le_of_ble_eq_true rfl)⟩ ⟨(Nat.le_of_ble_eq_true rfl), (Nat.le_of_ble_eq_true rfl)⟩ xT_b xT_at 4 10 rfl rfl rfl _ hC_ (nd_T _ 0) rfl hl13.1 rfl (Nat.le_of_ble_eq_true rfl) dX9_follow_26)) rfl (fun _ => rfl) (fun _ => rfl) (fun r_94 u_93 H1 locs hp hw95 => ?_)
        obtain ⟨gpmeasured_96, gpmeasuredIn_97⟩ := u_93
        generalize H1 = H at hw95 ⊢
        have hw98 : WD D A s.heap (WZ_TVO cI cJ mv mr mi (va_up (va_up (va_up mf 3 g_8) 42 gpmeasured_96) 43 gpmeasuredIn_97) mg) H locs := hw95
        refine x_iastG (pc := 29) (f := g_8) (wf := fun g => (WZ_TVO cI cJ mv mr mi (va_up (va_up (va_up mf 3 g) 42 gpmeasured_96) 43 gpmeasuredIn_97) mg)) E hw98 3 rfl (inbE (a := x_7.toInt) rfl (by omega)) (fun _ => rfl) dX9_follow_29 (fun g_99 H locs eg_99 hw100 => ?_)
        obtain ⟨v_101, ev_101⟩ : ∃ z : Int32, x_7 + Int32.ofInt (1) = z := ⟨_, rfl⟩
        have hv_101 : v_101.toInt = x_7.toInt + (1) := by rw [← ev_101]; exact incE rfl (by decide) (by omega)
        refine lv_iinc (pc := 30) (v := v_101) (lv' := [(4, .int v_101), (3, .int (mi 33)), (0, .ref (mr 0)), (1, .ref (mr 4)), (2, .int z_n)]) E.1 E.2.1 dX9_follow_30 hl13 (k := 0) rfl ev_101 (by decide) rfl (fun ls hl102 => ?_)
        refine lv_goto (pc := 33) (tgt := 11) E.1 E.2.1 dX9_follow_33 (by decide) ?_
        exact ih_11 v_101 g_99 gpmeasured_96 gpmeasuredIn_97 _ _ _ ⟨(by show 0 ≤ v_101.toInt; omega), (by show v_101.toInt ≤ (mi 33).toInt; omega)⟩ (by omega) hw100 (lv_sub hl102 [0, 1, 2, 3, 4] rfl)
  exact loop_6 (Int.toNat ((mi 33).toInt - 0) + 1) 0 (mf 3) (mf 42) (mf 43) _ _ _ ⟨(by show 0 ≤ (0 : Int32).toInt; have k_0 : (0 : Int32).toInt = 0 := (by decide +kernel); omega), (by show (0 : Int32).toInt ≤ (mi 33).toInt; have k_0 : (0 : Int32).toInt = 0 := (by decide +kernel); omega)⟩ (by have k_0 : (0 : Int32).toInt = 0 := (by decide +kernel); omega) hw1 (lv_sub hl5 [0, 1, 2, 3, 4] rfl)
