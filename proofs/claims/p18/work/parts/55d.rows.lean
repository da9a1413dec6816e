set_option maxHeartbeats 4000000 in
set_option maxRecDepth 100000 in
theorem t_join (l : Launch) (D : va_G) (cI cJ : ClassId) (sz : Nat) (mr : Nat → Nat) (mi : Nat → Int32) (mf : Nat → Nat → Int32) (mg : Nat → Nat → Int64) (z_what : Int32) (z_a : Int32) (z_b : Int32)  : Met l yX2_join (Cond.code yX2_join cX2_join 3 (some .int) :: GW) ({ frames := 1, cells := 0, slots := 0, locals := 40 } : Room) (va_Pc [.int z_what, .int z_a, .int z_b] (PW D cI cJ sz (WZ_Ej cI cJ mr mi mf mg) xT)) (va_Qi (fun (r : Int32) (u : Unit) => True) (fun u => QW D cI cJ (va_A (WZ_Ej cI cJ mr mi mf mg) sz) ((fun (u : Unit) => (WZ_Ej cI cJ mr mi mf mg)) u)) (va_A (WZ_Ej cI cJ mr mi mf mg) sz)) 0 0 (va_A (WZ_Ej cI cJ mr mi mf mg) sz) := by
  refine mk_met (y := yX2_join) (bytes := cX2_join) (maxL := 3) (avs := [.int z_what, .int z_a, .int z_b]) (WS := (WZ_Ej cI cJ mr mi mf mg)) (Qf := fun A => va_Qi (fun (r : Int32) (u : Unit) => True) (fun u => QW D cI cJ A ((fun (u : Unit) => (WZ_Ej cI cJ mr mi mf mg)) u)) A) (by decide) (Nat.le_of_ble_eq_true rfl) ?_
  intro p e s m below meth c A ls E hr hlk hnm hX hw1 hl2
  have hl3 : lv_has ls 3 [(0, .int z_what), (1, .int z_a), (2, .int z_b)] := hl2
  refine lv_iload_n (pc := 0) E.1 E.2.1 dX2_join_0 rfl (lv_at hl3 0 rfl) ?_
  by_cases hlk_4 : z_what.toInt = 42
  · skip
    have hlk_4e : z_what = 42 := Int32.toInt_inj.mp (by rw [hlk_4]; decide +kernel)
    refine lv_lookup (pc := 1) (off := 83) (tgt := 84) E.1 E.2.1 dX2_join_1 (by decide +kernel) (by rw [hlk_4e]; decide +kernel) (by decide) ?_
    refine lv_iload_n (pc := 84) E.1 E.2.1 dX2_join_84 rfl (lv_at hl3 1 rfl) ?_
    refine lv_iload_n (pc := 85) E.1 E.2.1 dX2_join_85 rfl (lv_at hl3 2 rfl) ?_
    refine lv_imul (pc := 86) E.1 E.2.1 dX2_join_86 ?_
    refine lv_topi (fun v_5 ev_5 => ?_)
    exact em_i (w1 := (fun (u : Unit) => (WZ_Ej cI cJ mr mi mf mg))) E hr hlk () hw1 trivial (Nat.le_of_ble_eq_true rfl) (Nat.le_of_ble_eq_true rfl) dX2_join_87
  · skip
    by_cases hlk_6 : z_what.toInt = 43
    · skip
      have hlk_6e : z_what = 43 := Int32.toInt_inj.mp (by rw [hlk_6]; decide +kernel)
      refine lv_lookup (pc := 1) (off := 75) (tgt := 76) E.1 E.2.1 dX2_join_1 (by decide +kernel) (by rw [hlk_6e]; decide +kernel) (by decide) ?_
      refine lv_iload_n (pc := 76) E.1 E.2.1 dX2_join_76 rfl (lv_at hl3 1 rfl) ?_
      refine lv_iload_n (pc := 77) E.1 E.2.1 dX2_join_77 rfl (lv_at hl3 2 rfl) ?_
      refine lv_iadd (pc := 78) E.1 E.2.1 dX2_join_78 ?_
      refine lv_topi (fun v_7 ev_7 => ?_)
      exact em_i (w1 := (fun (u : Unit) => (WZ_Ej cI cJ mr mi mf mg))) E hr hlk () hw1 trivial (Nat.le_of_ble_eq_true rfl) (Nat.le_of_ble_eq_true rfl) dX2_join_79
    · skip
      by_cases hlk_8 : z_what.toInt = 45
      · skip
        have hlk_8e : z_what = 45 := Int32.toInt_inj.mp (by rw [hlk_8]; decide +kernel)
        refine lv_lookup (pc := 1) (off := 79) (tgt := 80) E.1 E.2.1 dX2_join_1 (by decide +kernel) (by rw [hlk_8e]; decide +kernel) (by decide) ?_
        refine lv_iload_n (pc := 80) E.1 E.2.1 dX2_join_80 rfl (lv_at hl3 1 rfl) ?_
        refine lv_iload_n (pc := 81) E.1 E.2.1 dX2_join_81 rfl (lv_at hl3 2 rfl) ?_
        refine lv_isub (pc := 82) E.1 E.2.1 dX2_join_82 ?_
        refine lv_topi (fun v_9 ev_9 => ?_)
        exact em_i (w1 := (fun (u : Unit) => (WZ_Ej cI cJ mr mi mf mg))) E hr hlk () hw1 trivial (Nat.le_of_ble_eq_true rfl) (Nat.le_of_ble_eq_true rfl) dX2_join_83
      · skip
        by_cases hlk_10 : z_what.toInt = 47
        · skip
          have hlk_10e : z_what = 47 := Int32.toInt_inj.mp (by rw [hlk_10]; decide +kernel)
          refine lv_lookup (pc := 1) (off := 87) (tgt := 88) E.1 E.2.1 dX2_join_1 (by decide +kernel) (by rw [hlk_10e]; decide +kernel) (by decide) ?_
          refine lv_iload_n (pc := 88) E.1 E.2.1 dX2_join_88 rfl (lv_at hl3 2 rfl) ?_
          refine lv_if_eq (pc := 89) (tgt := 98) E.1 E.2.1 dX2_join_89 (by decide) (fun c_11 => ?_) (fun c_11 => ?_)
          · skip
            have hc_11 := eqE (a := z_b.toInt) (b := 0) rfl (by decide +kernel) c_11
            refine lv_iconst (pc := 98) (v := 0) E.1 E.2.1 dX2_join_98 (by decide +kernel) ?_
            exact em_i (w1 := (fun (u : Unit) => (WZ_Ej cI cJ mr mi mf mg))) E hr hlk () hw1 trivial (Nat.le_of_ble_eq_true rfl) (Nat.le_of_ble_eq_true rfl) dX2_join_99
          · skip
            have hc_11 := neE (a := z_b.toInt) (b := 0) rfl (by decide +kernel) c_11
            refine lv_iload_n (pc := 92) E.1 E.2.1 dX2_join_92 rfl (lv_at hl3 1 rfl) ?_
            refine lv_iload_n (pc := 93) E.1 E.2.1 dX2_join_93 rfl (lv_at hl3 2 rfl) ?_
            refine lv_idiv (pc := 94) E.1 E.2.1 dX2_join_94 (mneE (a := z_b.toInt) (b := 0) rfl (by decide +kernel) (by omega)) ?_
            refine lv_topi (fun v_12 ev_12 => ?_)
            refine lv_goto (pc := 95) (tgt := 99) E.1 E.2.1 dX2_join_95 (by decide) ?_
            exact em_i (w1 := (fun (u : Unit) => (WZ_Ej cI cJ mr mi mf mg))) E hr hlk () hw1 trivial (Nat.le_of_ble_eq_true rfl) (Nat.le_of_ble_eq_true rfl) dX2_join_99
        · skip
          by_cases hlk_13 : z_what.toInt = 60
          · skip
            have hlk_13e : z_what = 60 := Int32.toInt_inj.mp (by rw [hlk_13]; decide +kernel)
            refine lv_lookup (pc := 1) (off := 99) (tgt := 100) E.1 E.2.1 dX2_join_1 (by decide +kernel) (by rw [hlk_13e]; decide +kernel) (by decide) ?_
            refine lv_iload_n (pc := 100) E.1 E.2.1 dX2_join_100 rfl (lv_at hl3 1 rfl) ?_
            refine lv_iload_n (pc := 101) E.1 E.2.1 dX2_join_101 rfl (lv_at hl3 2 rfl) ?_
            refine lv_icmp_ge (pc := 102) (tgt := 109) E.1 E.2.1 dX2_join_102 (by decide) (fun c_14 => ?_) (fun c_14 => ?_)
            · skip
              have hc_14 := leE (a := z_b.toInt) (b := z_a.toInt) rfl rfl c_14
              refine lv_iconst (pc := 109) (v := 0) E.1 E.2.1 dX2_join_109 (by decide +kernel) ?_
              exact em_i (w1 := (fun (u : Unit) => (WZ_Ej cI cJ mr mi mf mg))) E hr hlk () hw1 trivial (Nat.le_of_ble_eq_true rfl) (Nat.le_of_ble_eq_true rfl) dX2_join_110
            · skip
              have hc_14 := nleE (a := z_b.toInt) (b := z_a.toInt) rfl rfl c_14
              refine lv_iconst (pc := 105) (v := 1) E.1 E.2.1 dX2_join_105 (by decide +kernel) ?_
              refine lv_goto (pc := 106) (tgt := 110) E.1 E.2.1 dX2_join_106 (by decide) ?_
              exact em_i (w1 := (fun (u : Unit) => (WZ_Ej cI cJ mr mi mf mg))) E hr hlk () hw1 trivial (Nat.le_of_ble_eq_true rfl) (Nat.le_of_ble_eq_true rfl) dX2_join_110
          · skip
            by_cases hlk_15 : z_what.toInt = 61
            · skip
              have hlk_15e : z_what = 61 := Int32.toInt_inj.mp (by rw [hlk_15]; decide +kernel)
              refine lv_lookup (pc := 1) (off := 110) (tgt := 111) E.1 E.2.1 dX2_join_1 (by decide +kernel) (by rw [hlk_15e]; decide +kernel) (by decide) ?_
              refine lv_iload_n (pc := 111) E.1 E.2.1 dX2_join_111 rfl (lv_at hl3 1 rfl) ?_
              refine lv_iload_n (pc := 112) E.1 E.2.1 dX2_join_112 rfl (lv_at hl3 2 rfl) ?_
              refine lv_icmp_ne (pc := 113) (tgt := 120) E.1 E.2.1 dX2_join_113 (by decide) (fun c_16 => ?_) (fun c_16 => ?_)
              · skip
                have hc_16 := neE (a := z_a.toInt) (b := z_b.toInt) rfl rfl c_16
                refine lv_iconst (pc := 120) (v := 0) E.1 E.2.1 dX2_join_120 (by decide +kernel) ?_
                exact em_i (w1 := (fun (u : Unit) => (WZ_Ej cI cJ mr mi mf mg))) E hr hlk () hw1 trivial (Nat.le_of_ble_eq_true rfl) (Nat.le_of_ble_eq_true rfl) dX2_join_121
              · skip
                have hc_16 := eqE (a := z_a.toInt) (b := z_b.toInt) rfl rfl c_16
                refine lv_iconst (pc := 116) (v := 1) E.1 E.2.1 dX2_join_116 (by decide +kernel) ?_
                refine lv_goto (pc := 117) (tgt := 121) E.1 E.2.1 dX2_join_117 (by decide) ?_
                exact em_i (w1 := (fun (u : Unit) => (WZ_Ej cI cJ mr mi mf mg))) E hr hlk () hw1 trivial (Nat.le_of_ble_eq_true rfl) (Nat.le_of_ble_eq_true rfl) dX2_join_121
            · skip
              by_cases hlk_17 : z_what.toInt = 62
              · skip
                have hlk_17e : z_what = 62 := Int32.toInt_inj.mp (by rw [hlk_17]; decide +kernel)
                refine lv_lookup (pc := 1) (off := 121) (tgt := 122) E.1 E.2.1 dX2_join_1 (by decide +kernel) (by rw [hlk_17e]; decide +kernel) (by decide) ?_
                refine lv_iload_n (pc := 122) E.1 E.2.1 dX2_join_122 rfl (lv_at hl3 1 rfl) ?_
                refine lv_iload_n (pc := 123) E.1 E.2.1 dX2_join_123 rfl (lv_at hl3 2 rfl) ?_
                refine lv_icmp_le (pc := 124) (tgt := 131) E.1 E.2.1 dX2_join_124 (by decide) (fun c_18 => ?_) (fun c_18 => ?_)
                · skip
                  have hc_18 := leE (a := z_a.toInt) (b := z_b.toInt) rfl rfl c_18
                  refine lv_iconst (pc := 131) (v := 0) E.1 E.2.1 dX2_join_131 (by decide +kernel) ?_
                  exact em_i (w1 := (fun (u : Unit) => (WZ_Ej cI cJ mr mi mf mg))) E hr hlk () hw1 trivial (Nat.le_of_ble_eq_true rfl) (Nat.le_of_ble_eq_true rfl) dX2_join_132
                · skip
                  have hc_18 := nleE (a := z_a.toInt) (b := z_b.toInt) rfl rfl c_18
                  refine lv_iconst (pc := 127) (v := 1) E.1 E.2.1 dX2_join_127 (by decide +kernel) ?_
                  refine lv_goto (pc := 128) (tgt := 132) E.1 E.2.1 dX2_join_128 (by decide) ?_
                  exact em_i (w1 := (fun (u : Unit) => (WZ_Ej cI cJ mr mi mf mg))) E hr hlk () hw1 trivial (Nat.le_of_ble_eq_true rfl) (Nat.le_of_ble_eq_true rfl) dX2_join_132
              · skip
                by_cases hlk_19 : z_what.toInt = 259
                · skip
                  have hlk_19e : z_what = 259 := Int32.toInt_inj.mp (by rw [hlk_19]; decide +kernel)
                  refine lv_lookup (pc := 1) (off := 132) (tgt := 133) E.1 E.2.1 dX2_join_1 (by decide +kernel) (by rw [hlk_19e]; decide +kernel) (by decide) ?_
                  refine lv_iload_n (pc := 133) E.1 E.2.1 dX2_join_133 rfl (lv_at hl3 1 rfl) ?_
                  refine lv_iload_n (pc := 134) E.1 E.2.1 dX2_join_134 rfl (lv_at hl3 2 rfl) ?_
                  refine lv_iand (pc := 135) E.1 E.2.1 dX2_join_135 ?_
                  refine lv_topi (fun v_20 ev_20 => ?_)
                  exact em_i (w1 := (fun (u : Unit) => (WZ_Ej cI cJ mr mi mf mg))) E hr hlk () hw1 trivial (Nat.le_of_ble_eq_true rfl) (Nat.le_of_ble_eq_true rfl) dX2_join_136
                · skip
                  refine lv_lookup (pc := 1) (off := 136) (tgt := 137) E.1 E.2.1 dX2_join_1 (by decide +kernel) (by show (if (42 : Int) = z_what.toInt then (83 : Int) else (if (43 : Int) = z_what.toInt then (75 : Int) else (if (45 : Int) = z_what.toInt then (79 : Int) else (if (47 : Int) = z_what.toInt then (87 : Int) else (if (60 : Int) = z_what.toInt then (99 : Int) else (if (61 : Int) = z_what.toInt then (110 : Int) else (if (62 : Int) = z_what.toInt then (121 : Int) else (if (259 : Int) = z_what.toInt then (132 : Int) else (136 : Int))))))))) = 136; rw [if_neg (by omega), if_neg (by omega), if_neg (by omega), if_neg (by omega), if_neg (by omega), if_neg (by omega), if_neg (by omega), if_neg (by omega)]) (by decide) ?_
                  refine lv_iload_n (pc := 137) E.1 E.2.1 dX2_join_137 rfl (lv_at hl3 1 rfl) ?_
                  refine lv_iload_n (pc := 138) E.1 E.2.1 dX2_join_138 rfl (lv_at hl3 2 rfl) ?_
                  refine lv_ior (pc := 139) E.1 E.2.1 dX2_join_139 ?_
                  refine lv_topi (fun v_21 ev_21 => ?_)
                  exact em_i (w1 := (fun (u : Unit) => (WZ_Ej cI cJ mr mi mf mg))) E hr hlk () hw1 trivial (Nat.le_of_ble_eq_true rfl) (Nat.le_of_ble_eq_true rfl) dX2_join_140
set_option maxHeartbeats 4000000 in
set_option maxRecDepth 100000 in
theorem t_value (l : Launch) (D : va_G) (cI cJ : ClassId) (sz : Nat) (mr : Nat → Nat) (mi : Nat → Int32) (mf : Nat → Nat → Int32) (mg : Nat → Nat → Int64) (z_start : Int32) (z_end : Int32) (h0 : 0 ≤ z_start.toInt ∧ z_start.toInt ≤ 400) : Met l yX2_value (Cond.code yX2_value cX2_value 7 (some .int) :: GW) ({ frames := 2, cells := 0, slots := 0, locals := 62 } : Room) (va_Pc [.ref (mr 0), .int z_start, .int z_end, .ref (mr 10)] (PW D cI cJ sz (WZ_LawR cI cJ mr mi mf mg) xT)) (va_Qi (fun (r : Int32) (u : (Nat → Int32)) => True) (fun u => QW D cI cJ (va_A (WZ_LawR cI cJ mr mi mf mg) sz) ((fun (u : (Nat → Int32)) => (WZ_LawR cI cJ mr mi (va_up mf 5 u) mg)) u)) (va_A (WZ_LawR cI cJ mr mi mf mg) sz)) 0 0 (va_A (WZ_LawR cI cJ mr mi mf mg) sz) := by
  refine mk_met (y := yX2_value) (bytes := cX2_value) (maxL := 7) (avs := [.ref (mr 0), .int z_start, .int z_end, .ref (mr 10)]) (WS := (WZ_LawR cI cJ mr mi mf mg)) (Qf := fun A => va_Qi (fun (r : Int32) (u : (Nat → Int32)) => True) (fun u => QW D cI cJ A ((fun (u : (Nat → Int32)) => (WZ_LawR cI cJ mr mi (va_up mf 5 u) mg)) u)) A) (by decide) (Nat.le_of_ble_eq_true rfl) ?_
  intro p e s m below meth c A ls E hr hlk hnm hX hw1 hl2
  have hl3 : lv_has ls 7 [(0, .ref (mr 0)), (1, .int z_start), (2, .int z_end), (3, .ref (mr 10))] := hl2
  refine lv_iconst (pc := 0) (v := (-1)) E.1 E.2.1 dX2_value_0 (by decide +kernel) ?_
  refine lv_istore (pc := 1) (lv' := [(4, .int (-1)), (0, .ref (mr 0)), (1, .int z_start), (2, .int z_end), (3, .ref (mr 10))]) E.1 E.2.1 dX2_value_1 hl3 (by decide) rfl (fun ls hl4 => ?_)
  refine lv_iload_n (pc := 3) E.1 E.2.1 dX2_value_3 rfl (lv_at hl4 2 rfl) ?_
  refine lv_istore (pc := 4) (lv' := [(5, .int z_start), (4, .int (-1)), (0, .ref (mr 0)), (1, .int z_start), (2, .int z_end), (3, .ref (mr 10))]) E.1 E.2.1 dX2_value_4 hl4 (by decide) rfl (fun ls hl5 => ?_)
  have loop_6 : ∀ (k : Nat) (x_7 : Int32) (x_8 : Int32) (g_9 : Nat → Int32) (H : Heap) (locs : List Loc) (ls : Array Slot), ((-1) ≤ x_7.toInt) ∧ (x_7.toInt ≤ 63) ∧ (0 ≤ x_8.toInt) ∧ (x_8.toInt ≤ 400) → 400 - x_8.toInt < (k : Int) → WD D A s.heap (WZ_LawR cI cJ mr mi (va_up mf 5 g_9) mg) H locs → lv_has ls 7 [(5, .int x_8), (4, .int x_7), (0, .ref (mr 0)), (1, .int z_start), (2, .int z_end), (3, .ref (mr 10))] → W p l e ({ frames := 2, cells := 0, slots := 0, locals := 62 } : Room) s m ([.ref (mr 0), .int z_start, .int z_end, .ref (mr 10)] : List Value).toArray below meth c H locs 0 0 (MQ below (va_Qi (fun (r : Int32) (u : (Nat → Int32)) => True) (fun u => QW D cI cJ A ((fun (u : (Nat → Int32)) => (WZ_LawR cI cJ mr mi (va_up mf 5 u) mg)) u)) A) ([.ref (mr 0), .int z_start, .int z_end, .ref (mr 10)] : List Value).toArray s 0 0 A) (F0 m 6 ls []) := by
    intro k
    induction k with
    | zero =>
      intro x_7 x_8 g_9 _ _ _ hinv hm
      obtain ⟨hi_9_0, hi_9_1, hi_9_2, hi_9_3⟩ := hinv
      exact absurd hm (by omega)
    | succ k ih_10 =>
      intro x_7 x_8 g_9 H locs ls hinv hm hw11 hl12
      obtain ⟨hi_9_0, hi_9_1, hi_9_2, hi_9_3⟩ := hinv
      refine lv_iload (pc := 6) E.1 E.2.1 dX2_value_6 (lv_at hl12 0 rfl) ?_
      refine lv_iload_n (pc := 8) E.1 E.2.1 dX2_value_8 rfl (lv_at hl12 4 rfl) ?_
      refine lv_icmp_ge (pc := 9) (tgt := 164) E.1 E.2.1 dX2_value_9 (by decide) (fun c_13 => ?_) (fun c_13 => ?_)
      · skip
        have hc_13 := leE (a := z_end.toInt) (b := x_8.toInt) rfl rfl c_13
        refine lv_iload (pc := 164) E.1 E.2.1 dX2_value_164 (lv_at hl12 1 rfl) ?_
        refine lv_if_lt (pc := 166) (tgt := 179) E.1 E.2.1 dX2_value_166 (by decide) (fun c_14 => ?_) (fun c_14 => ?_)
        · skip
          have hc_14 := ltE (a := x_7.toInt) (b := 0) rfl (by decide +kernel) c_14
          refine lv_iconst (pc := 179) (v := 0) E.1 E.2.1 dX2_value_179 (by decide +kernel) ?_
          exact em_i (w1 := (fun (u : (Nat → Int32)) => (WZ_LawR cI cJ mr mi (va_up mf 5 u) mg))) E hr hlk g_9 hw11 trivial (Nat.le_of_ble_eq_true rfl) (Nat.le_of_ble_eq_true rfl) dX2_value_180
        · skip
          have hc_14 := nltE (a := x_7.toInt) (b := 0) rfl (by decide +kernel) c_14
          refine lv_aload_n (pc := 169) E.1 E.2.1 dX2_value_169 rfl (lv_at hl12 2 rfl) ?_
          refine x_get (pc := 170) (T := TX2) (N := 9) (ci := 2) (v := .ref (mr 5)) E hw11 inX2 0 4 q_389 rfl rfl (by decide) rfl rfl dX2_value_170 ?_
          refine lv_iload (pc := 173) E.1 E.2.1 dX2_value_173 (lv_at hl12 1 rfl) ?_
          refine x_iald (pc := 175) (f := g_9) E hw11 3 rfl (inbE (a := x_7.toInt) rfl (by omega)) dX2_value_175 ?_
          refine lv_topi (fun v_15 ev_15 => ?_)
          refine lv_goto (pc := 176) (tgt := 180) E.1 E.2.1 dX2_value_176 (by decide) ?_
          exact em_i (w1 := (fun (u : (Nat → Int32)) => (WZ_LawR cI cJ mr mi (va_up mf 5 u) mg))) E hr hlk g_9 hw11 trivial (Nat.le_of_ble_eq_true rfl) (Nat.le_of_ble_eq_true rfl) dX2_value_180
      · skip
        have hc_13 := nleE (a := z_end.toInt) (b := x_8.toInt) rfl rfl c_13
        refine lv_iload (pc := 12) E.1 E.2.1 dX2_value_12 (lv_at hl12 0 rfl) ?_
        refine lv_sipush (pc := 14) (v := 400) E.1 E.2.1 dX2_value_14 (by decide +kernel) ?_
        refine lv_icmp_ge (pc := 17) (tgt := 164) E.1 E.2.1 dX2_value_17 (by decide) (fun c_16 => ?_) (fun c_16 => ?_)
        · skip
          have hc_16 := leE (a := 400) (b := x_8.toInt) (by decide +kernel) rfl c_16
          refine lv_iload (pc := 164) E.1 E.2.1 dX2_value_164 (lv_at hl12 1 rfl) ?_
          refine lv_if_lt (pc := 166) (tgt := 179) E.1 E.2.1 dX2_value_166 (by decide) (fun c_17 => ?_) (fun c_17 => ?_)
          · skip
            have hc_17 := ltE (a := x_7.toInt) (b := 0) rfl (by decide +kernel) c_17
            refine lv_iconst (pc := 179) (v := 0) E.1 E.2.1 dX2_value_179 (by decide +kernel) ?_
            exact em_i (w1 := (fun (u : (Nat → Int32)) => (WZ_LawR cI cJ mr mi (va_up mf 5 u) mg))) E hr hlk g_9 hw11 trivial (Nat.le_of_ble_eq_true rfl) (Nat.le_of_ble_eq_true rfl) dX2_value_180
          · skip
            have hc_17 := nltE (a := x_7.toInt) (b := 0) rfl (by decide +kernel) c_17
            refine lv_aload_n (pc := 169) E.1 E.2.1 dX2_value_169 rfl (lv_at hl12 2 rfl) ?_
            refine x_get (pc := 170) (T := TX2) (N := 9) (ci := 2) (v := .ref (mr 5)) E hw11 inX2 0 4 q_389 rfl rfl (by decide) rfl rfl dX2_value_170 ?_
            refine lv_iload (pc := 173) E.1 E.2.1 dX2_value_173 (lv_at hl12 1 rfl) ?_
            refine x_iald (pc := 175) (f := g_9) E hw11 3 rfl (inbE (a := x_7.toInt) rfl (by omega)) dX2_value_175 ?_
            refine lv_topi (fun v_18 ev_18 => ?_)
            refine lv_goto (pc := 176) (tgt := 180) E.1 E.2.1 dX2_value_176 (by decide) ?_
            exact em_i (w1 := (fun (u : (Nat → Int32)) => (WZ_LawR cI cJ mr mi (va_up mf 5 u) mg))) E hr hlk g_9 hw11 trivial (Nat.le_of_ble_eq_true rfl) (Nat.le_of_ble_eq_true rfl) dX2_value_180
        · skip
          have hc_16 := nleE (a := 400) (b := x_8.toInt) (by decide +kernel) rfl c_16
          refine lv_aload_n (pc := 20) E.1 E.2.1 dX2_value_20 rfl (lv_at hl12 2 rfl) ?_
          refine x_get (pc := 21) (T := TX2) (N := 9) (ci := 2) (v := .ref (mr 1)) E hw11 inX2 0 0 q_384 rfl rfl (by decide) rfl rfl dX2_value_21 ?_
          refine lv_iload (pc := 24) E.1 E.2.1 dX2_value_24 (lv_at hl12 0 rfl) ?_
          refine x_iald (pc := 26) (f := (mf 1)) E hw11 1 rfl (inbE (a := x_8.toInt) rfl (by omega)) dX2_value_26 ?_
          refine lv_topi (fun v_19 ev_19 => ?_)
          refine lv_istore (pc := 27) (lv' := [(6, .int v_19), (5, .int x_8), (4, .int x_7), (0, .ref (mr 0)), (1, .int z_start), (2, .int z_end), (3, .ref (mr 10))]) E.1 E.2.1 dX2_value_27 hl12 (by decide) rfl (fun ls hl20 => ?_)
          refine lv_iload (pc := 29) E.1 E.2.1 dX2_value_29 (lv_at hl20 0 rfl) ?_
          refine lv_if_lt (pc := 31) (tgt := 42) E.1 E.2.1 dX2_value_31 (by decide) (fun c_21 => ?_) (fun c_21 => ?_)
          · skip
            have hc_21 := ltE (a := v_19.toInt) (b := 0) rfl (by decide +kernel) c_21
            refine lv_iload (pc := 42) E.1 E.2.1 dX2_value_42 (lv_at hl20 2 rfl) ?_
            refine lv_iconst (pc := 44) (v := 1) E.1 E.2.1 dX2_value_44 (by decide +kernel) ?_
            refine lv_iadd (pc := 45) E.1 E.2.1 dX2_value_45 ?_
            refine lv_topi (fun v_22 ev_22 => ?_)
            have hv_22 : v_22.toInt = x_7.toInt + 1 := by rw [ev_22]; exact addE rfl (by decide +kernel) (by omega)
            refine lv_aload_n (pc := 46) E.1 E.2.1 dX2_value_46 rfl (lv_at hl20 3 rfl) ?_
            refine x_get (pc := 47) (T := TX2) (N := 9) (ci := 2) (v := .ref (mr 5)) E hw11 inX2 0 4 q_389 rfl rfl (by decide) rfl rfl dX2_value_47 ?_
            refine va_alen (pc := 50) E.1 E.2.1 E.2.2.2.2.2 hw11.1 3 0 rfl rfl (v := 64) (show Int32.ofNat 64 = 64 from by decide +kernel) dX2_value_50 ?_
            refine lv_icmp_ge (pc := 51) (tgt := 158) E.1 E.2.1 dX2_value_51 (by decide) (fun c_23 => ?_) (fun c_23 => ?_)
            · skip
              have hc_23 := leE (a := 64) (b := v_22.toInt) (by decide +kernel) rfl c_23
              obtain ⟨v_24, ev_24⟩ : ∃ z : Int32, x_8 + Int32.ofInt (1) = z := ⟨_, rfl⟩
              have hv_24 : v_24.toInt = x_8.toInt + (1) := by rw [← ev_24]; exact incE rfl (by decide) (by omega)
              refine lv_iinc (pc := 158) (v := v_24) (lv' := [(5, .int v_24), (6, .int v_19), (4, .int x_7), (0, .ref (mr 0)), (1, .int z_start), (2, .int z_end), (3, .ref (mr 10))]) E.1 E.2.1 dX2_value_158 hl20 (k := 1) rfl ev_24 (by decide) rfl (fun ls hl25 => ?_)
              refine lv_goto (pc := 161) (tgt := 6) E.1 E.2.1 dX2_value_161 (by decide) ?_
              exact ih_10 x_7 v_24 g_9 _ _ _ ⟨hi_9_0, hi_9_1, (by show 0 ≤ v_24.toInt; omega), (by show v_24.toInt ≤ 400; omega)⟩ (by omega) hw11 (lv_sub hl25 [0, 2, 3, 4, 5, 6] rfl)
            · skip
              have hc_23 := nleE (a := 64) (b := v_22.toInt) (by decide +kernel) rfl c_23
              obtain ⟨v_26, ev_26⟩ : ∃ z : Int32, x_7 + Int32.ofInt (1) = z := ⟨_, rfl⟩
              have hv_26 : v_26.toInt = x_7.toInt + (1) := by rw [← ev_26]; exact incE rfl (by decide) (by omega)
              refine lv_iinc (pc := 54) (v := v_26) (lv' := [(4, .int v_26), (6, .int v_19), (5, .int x_8), (0, .ref (mr 0)), (1, .int z_start), (2, .int z_end), (3, .ref (mr 10))]) E.1 E.2.1 dX2_value_54 hl20 (k := 2) rfl ev_26 (by decide) rfl (fun ls hl27 => ?_)
              refine lv_aload_n (pc := 57) E.1 E.2.1 dX2_value_57 rfl (lv_at hl27 3 rfl) ?_
              refine x_get (pc := 58) (T := TX2) (N := 9) (ci := 2) (v := .ref (mr 5)) E hw11 inX2 0 4 q_389 rfl rfl (by decide) rfl rfl dX2_value_58 ?_
              refine lv_iload (pc := 61) E.1 E.2.1 dX2_value_61 (lv_at hl27 0 rfl) ?_
              refine lv_iload (pc := 63) E.1 E.2.1 dX2_value_63 (lv_at hl27 1 rfl) ?_
              refine lv_if_ge (pc := 65) (tgt := 75) E.1 E.2.1 dX2_value_65 (by decide) (fun c_28 => absurd c_28 (mnleE (a := 0) (b := v_19.toInt) (by decide +kernel) rfl (by omega))) (fun _ => ?_)
              refine lv_iconst (pc := 68) (v := (-1)) E.1 E.2.1 dX2_value_68 (by decide +kernel) ?_
              refine lv_iload (pc := 69) E.1 E.2.1 dX2_value_69 (lv_at hl27 1 rfl) ?_
              refine lv_isub (pc := 71) E.1 E.2.1 dX2_value_71 ?_
              refine lv_topi (fun v_29 ev_29 => ?_)
              refine lv_goto (pc := 72) (tgt := 85) E.1 E.2.1 dX2_value_72 (by decide) ?_
              refine x_iastG (pc := 85) (f := g_9) (wf := fun g => (WZ_LawR cI cJ mr mi (va_up mf 5 g) mg)) E hw11 3 rfl (inbE (a := v_26.toInt) rfl (by omega)) (fun _ => rfl) dX2_value_85 (fun g_30 H locs eg_30 hw31 => ?_)
              refine lv_goto (pc := 86) (tgt := 158) E.1 E.2.1 dX2_value_86 (by decide) ?_
              obtain ⟨v_32, ev_32⟩ : ∃ z : Int32, x_8 + Int32.ofInt (1) = z := ⟨_, rfl⟩
              have hv_32 : v_32.toInt = x_8.toInt + (1) := by rw [← ev_32]; exact incE rfl (by decide) (by omega)
              refine lv_iinc (pc := 158) (v := v_32) (lv' := [(5, .int v_32), (4, .int v_26), (6, .int v_19), (0, .ref (mr 0)), (1, .int z_start), (2, .int z_end), (3, .ref (mr 10))]) E.1 E.2.1 dX2_value_158 hl27 (k := 2) rfl ev_32 (by decide) rfl (fun ls hl33 => ?_)
              refine lv_goto (pc := 161) (tgt := 6) E.1 E.2.1 dX2_value_161 (by decide) ?_
              exact ih_10 v_26 v_32 g_30 _ _ _ ⟨(by show (-1) ≤ v_26.toInt; omega), (by show v_26.toInt ≤ 63; omega), (by show 0 ≤ v_32.toInt; omega), (by show v_32.toInt ≤ 400; omega)⟩ (by omega) hw31 (lv_sub hl33 [0, 1, 3, 4, 5, 6] rfl)
          · skip
            have hc_21 := nltE (a := v_19.toInt) (b := 0) rfl (by decide +kernel) c_21
            refine lv_iload (pc := 34) E.1 E.2.1 dX2_value_34 (lv_at hl20 0 rfl) ?_
            refine lv_sipush (pc := 36) (v := 261) E.1 E.2.1 dX2_value_36 (by decide +kernel) ?_
            refine lv_icmp_lt (pc := 39) (tgt := 89) E.1 E.2.1 dX2_value_39 (by decide) (fun c_34 => ?_) (fun c_34 => ?_)
            · skip
              have hc_34 := ltE (a := v_19.toInt) (b := 261) rfl (by decide +kernel) c_34
              refine lv_iload (pc := 89) E.1 E.2.1 dX2_value_89 (lv_at hl20 0 rfl) ?_
              refine lv_sipush (pc := 91) (v := 260) E.1 E.2.1 dX2_value_91 (by decide +kernel) ?_
              refine lv_icmp_ne (pc := 94) (tgt := 121) E.1 E.2.1 dX2_value_94 (by decide) (fun c_35 => ?_) (fun c_35 => ?_)
              · skip
                have hc_35 := neE (a := v_19.toInt) (b := 260) rfl (by decide +kernel) c_35
                refine lv_iload (pc := 121) E.1 E.2.1 dX2_value_121 (lv_at hl20 2 rfl) ?_
                refine lv_iconst (pc := 123) (v := 1) E.1 E.2.1 dX2_value_123 (by decide +kernel) ?_
                refine lv_icmp_lt (pc := 124) (tgt := 158) E.1 E.2.1 dX2_value_124 (by decide) (fun c_36 => ?_) (fun c_36 => ?_)
                · skip
                  have hc_36 := ltE (a := x_7.toInt) (b := 1) rfl (by decide +kernel) c_36
                  obtain ⟨v_37, ev_37⟩ : ∃ z : Int32, x_8 + Int32.ofInt (1) = z := ⟨_, rfl⟩
                  have hv_37 : v_37.toInt = x_8.toInt + (1) := by rw [← ev_37]; exact incE rfl (by decide) (by omega)
                  refine lv_iinc (pc := 158) (v := v_37) (lv' := [(5, .int v_37), (6, .int v_19), (4, .int x_7), (0, .ref (mr 0)), (1, .int z_start), (2, .int z_end), (3, .ref (mr 10))]) E.1 E.2.1 dX2_value_158 hl20 (k := 1) rfl ev_37 (by decide) rfl (fun ls hl38 => ?_)
                  refine lv_goto (pc := 161) (tgt := 6) E.1 E.2.1 dX2_value_161 (by decide) ?_
                  exact ih_10 x_7 v_37 g_9 _ _ _ ⟨hi_9_0, hi_9_1, (by show 0 ≤ v_37.toInt; omega), (by show v_37.toInt ≤ 400; omega)⟩ (by omega) hw11 (lv_sub hl38 [0, 2, 3, 4, 5, 6] rfl)
                · skip
                  have hc_36 := nltE (a := x_7.toInt) (b := 1) rfl (by decide +kernel) c_36
                  obtain ⟨v_39, ev_39⟩ : ∃ z : Int32, x_7 + Int32.ofInt (-1) = z := ⟨_, rfl⟩
                  have hv_39 : v_39.toInt = x_7.toInt + (-1) := by rw [← ev_39]; exact incE rfl (by decide) (by omega)
                  refine lv_iinc (pc := 127) (v := v_39) (lv' := [(4, .int v_39), (6, .int v_19), (5, .int x_8), (0, .ref (mr 0)), (1, .int z_start), (2, .int z_end), (3, .ref (mr 10))]) E.1 E.2.1 dX2_value_127 hl20 (k := 2) rfl ev_39 (by decide) rfl (fun ls hl40 => ?_)
                  refine lv_aload_n (pc := 130) E.1 E.2.1 dX2_value_130 rfl (lv_at hl40 3 rfl) ?_
                  refine x_get (pc := 131) (T := TX2) (N := 9) (ci := 2) (v := .ref (mr 5)) E hw11 inX2 0 4 q_389 rfl rfl (by decide) rfl rfl dX2_value_131 ?_
                  refine lv_iload (pc := 134) E.1 E.2.1 dX2_value_134 (lv_at hl40 0 rfl) ?_
                  refine lv_iload (pc := 136) E.1 E.2.1 dX2_value_136 (lv_at hl40 1 rfl) ?_
                  refine lv_aload_n (pc := 138) E.1 E.2.1 dX2_value_138 rfl (lv_at hl40 3 rfl) ?_
                  refine x_get (pc := 139) (T := TX2) (N := 9) (ci := 2) (v := .ref (mr 5)) E hw11 inX2 0 4 q_389 rfl rfl (by decide) rfl rfl dX2_value_139 ?_
                  refine lv_iload (pc := 142) E.1 E.2.1 dX2_value_142 (lv_at hl40 0 rfl) ?_
                  refine x_iald (pc := 144) (f := g_9) E hw11 3 rfl (inbE (a := v_39.toInt) rfl (by omega)) dX2_value_144 ?_
                  refine lv_topi (fun v_41 ev_41 => ?_)
                  refine lv_aload_n (pc := 145) E.1 E.2.1 dX2_value_145 rfl (lv_at hl40 3 rfl) ?_
                  refine x_get (pc := 146) (T := TX2) (N := 9) (ci := 2) (v := .ref (mr 5)) E hw11 inX2 0 4 q_389 rfl rfl (by decide) rfl rfl dX2_value_146 ?_
                  refine lv_iload (pc := 149) E.1 E.2.1 dX2_value_149 (lv_at hl40 0 rfl) ?_
                  refine lv_iconst (pc := 151) (v := 1) E.1 E.2.1 dX2_value_151 (by decide +kernel) ?_
                  refine lv_iadd (pc := 152) E.1 E.2.1 dX2_value_152 ?_
                  refine lv_topi (fun v_42 ev_42 => ?_)
                  have hv_42 : v_42.toInt = v_39.toInt + 1 := by rw [ev_42]; exact addE rfl (by decide +kernel) (by omega)
                  refine x_iald (pc := 153) (f := g_9) E hw11 3 rfl (inbE (a := v_42.toInt) rfl (by omega)) dX2_value_153 ?_
                  refine lv_topi (fun v_43 ev_43 => ?_)
                  refine ck_i (pc := 154) (ws' := (fun (u : Unit) => (WZ_LawR cI cJ mr mi (va_up mf 5 g_9) mg))) [false, false, false, false, false, false] hw11 rfl (fun hC_ => (rn_S (As := [.int v_19, .int v_41, .int v_43]) (rest := [.int v_39, .ref (mr 5)]) E hw11 (t_join l D cI cJ _ mr mi (va_up mf 5 g_9) mg v_19 v_41 v_43) (gdS q_1059 q_1060 q_157 q_1061) hdV_X2_join ⟨rfl, rfl⟩ ⟨(Nat.le_of_ble_eq_true rfl), (Nat.le_of_ble_eq_true rfl)⟩ ⟨(Nat.le_of_ble_eq_true rfl), (Nat.le_of_ble_eq_true rfl)⟩ xT_b xT_at _ hC_ (nd_T _ 0) rfl hl40.1 rfl (Nat.le_of_ble_eq_true rfl) dX2_value_154)) rfl (fun _ => rfl) (fun _ => rfl) (fun r_45 u_44 H1 locs hp hw46 => ?_)
                  generalize H1 = H at hw46 ⊢
                  have hw47 : WD D A s.heap (WZ_LawR cI cJ mr mi (va_up mf 5 g_9) mg) H locs := hw46
                  refine x_iastG (pc := 157) (f := g_9) (wf := fun g => (WZ_LawR cI cJ mr mi (va_up mf 5 g) mg)) E hw47 3 rfl (inbE (a := v_39.toInt) rfl (by omega)) (fun _ => rfl) dX2_value_157 (fun g_48 H locs eg_48 hw49 => ?_)
                  obtain ⟨v_50, ev_50⟩ : ∃ z : Int32, x_8 + Int32.ofInt (1) = z := ⟨_, rfl⟩
                  have hv_50 : v_50.toInt = x_8.toInt + (1) := by rw [← ev_50]; exact incE rfl (by decide) (by omega)
                  refine lv_iinc (pc := 158) (v := v_50) (lv' := [(5, .int v_50), (4, .int v_39), (6, .int v_19), (0, .ref (mr 0)), (1, .int z_start), (2, .int z_end), (3, .ref (mr 10))]) E.1 E.2.1 dX2_value_158 hl40 (k := 2) rfl ev_50 (by decide) rfl (fun ls hl51 => ?_)
                  refine lv_goto (pc := 161) (tgt := 6) E.1 E.2.1 dX2_value_161 (by decide) ?_
                  exact ih_10 v_39 v_50 g_48 _ _ _ ⟨(by show (-1) ≤ v_39.toInt; omega), (by show v_39.toInt ≤ 63; omega), (by show 0 ≤ v_50.toInt; omega), (by show v_50.toInt ≤ 400; omega)⟩ (by omega) hw49 (lv_sub hl51 [0, 1, 3, 4, 5, 6] rfl)
              · skip
                have hc_35 := eqE (a := v_19.toInt) (b := 260) rfl (by decide +kernel) c_35
                refine lv_iload (pc := 97) E.1 E.2.1 dX2_value_97 (lv_at hl20 2 rfl) ?_
                refine lv_if_lt (pc := 99) (tgt := 158) E.1 E.2.1 dX2_value_99 (by decide) (fun c_52 => ?_) (fun c_52 => ?_)
                · skip
                  have hc_52 := ltE (a := x_7.toInt) (b := 0) rfl (by decide +kernel) c_52
                  obtain ⟨v_53, ev_53⟩ : ∃ z : Int32, x_8 + Int32.ofInt (1) = z := ⟨_, rfl⟩
                  have hv_53 : v_53.toInt = x_8.toInt + (1) := by rw [← ev_53]; exact incE rfl (by decide) (by omega)
                  refine lv_iinc (pc := 158) (v := v_53) (lv' := [(5, .int v_53), (6, .int v_19), (4, .int x_7), (0, .ref (mr 0)), (1, .int z_start), (2, .int z_end), (3, .ref (mr 10))]) E.1 E.2.1 dX2_value_158 hl20 (k := 1) rfl ev_53 (by decide) rfl (fun ls hl54 => ?_)
                  refine lv_goto (pc := 161) (tgt := 6) E.1 E.2.1 dX2_value_161 (by decide) ?_
                  exact ih_10 x_7 v_53 g_9 _ _ _ ⟨hi_9_0, hi_9_1, (by show 0 ≤ v_53.toInt; omega), (by show v_53.toInt ≤ 400; omega)⟩ (by omega) hw11 (lv_sub hl54 [0, 2, 3, 4, 5, 6] rfl)
                · skip
                  have hc_52 := nltE (a := x_7.toInt) (b := 0) rfl (by decide +kernel) c_52
                  refine lv_aload_n (pc := 102) E.1 E.2.1 dX2_value_102 rfl (lv_at hl20 3 rfl) ?_
                  refine x_get (pc := 103) (T := TX2) (N := 9) (ci := 2) (v := .ref (mr 5)) E hw11 inX2 0 4 q_389 rfl rfl (by decide) rfl rfl dX2_value_103 ?_
                  refine lv_iload (pc := 106) E.1 E.2.1 dX2_value_106 (lv_at hl20 2 rfl) ?_
                  refine lv_iconst (pc := 108) (v := 1) E.1 E.2.1 dX2_value_108 (by decide +kernel) ?_
                  refine lv_aload_n (pc := 109) E.1 E.2.1 dX2_value_109 rfl (lv_at hl20 3 rfl) ?_
                  refine x_get (pc := 110) (T := TX2) (N := 9) (ci := 2) (v := .ref (mr 5)) E hw11 inX2 0 4 q_389 rfl rfl (by decide) rfl rfl dX2_value_110 ?_
                  refine lv_iload (pc := 113) E.1 E.2.1 dX2_value_113 (lv_at hl20 2 rfl) ?_
                  refine x_iald (pc := 115) (f := g_9) E hw11 3 rfl (inbE (a := x_7.toInt) rfl (by omega)) dX2_value_115 ?_
                  refine lv_topi (fun v_55 ev_55 => ?_)
                  refine lv_isub (pc := 116) E.1 E.2.1 dX2_value_116 ?_
                  refine lv_topi (fun v_56 ev_56 => ?_)
                  refine x_iastG (pc := 117) (f := g_9) (wf := fun g => (WZ_LawR cI cJ mr mi (va_up mf 5 g) mg)) E hw11 3 rfl (inbE (a := x_7.toInt) rfl (by omega)) (fun _ => rfl) dX2_value_117 (fun g_57 H locs eg_57 hw58 => ?_)
                  refine lv_goto (pc := 118) (tgt := 158) E.1 E.2.1 dX2_value_118 (by decide) ?_
                  obtain ⟨v_59, ev_59⟩ : ∃ z : Int32, x_8 + Int32.ofInt (1) = z := ⟨_, rfl⟩
                  have hv_59 : v_59.toInt = x_8.toInt + (1) := by rw [← ev_59]; exact incE rfl (by decide) (by omega)
                  refine lv_iinc (pc := 158) (v := v_59) (lv' := [(5, .int v_59), (6, .int v_19), (4, .int x_7), (0, .ref (mr 0)), (1, .int z_start), (2, .int z_end), (3, .ref (mr 10))]) E.1 E.2.1 dX2_value_158 hl20 (k := 1) rfl ev_59 (by decide) rfl (fun ls hl60 => ?_)
                  refine lv_goto (pc := 161) (tgt := 6) E.1 E.2.1 dX2_value_161 (by decide) ?_
                  exact ih_10 x_7 v_59 g_57 _ _ _ ⟨hi_9_0, hi_9_1, (by show 0 ≤ v_59.toInt; omega), (by show v_59.toInt ≤ 400; omega)⟩ (by omega) hw58 (lv_sub hl60 [0, 2, 3, 4, 5, 6] rfl)
            · skip
              have hc_34 := nltE (a := v_19.toInt) (b := 261) rfl (by decide +kernel) c_34
              refine lv_iload (pc := 42) E.1 E.2.1 dX2_value_42 (lv_at hl20 2 rfl) ?_
              refine lv_iconst (pc := 44) (v := 1) E.1 E.2.1 dX2_value_44 (by decide +kernel) ?_
              refine lv_iadd (pc := 45) E.1 E.2.1 dX2_value_45 ?_
              refine lv_topi (fun v_61 ev_61 => ?_)
              have hv_61 : v_61.toInt = x_7.toInt + 1 := by rw [ev_61]; exact addE rfl (by decide +kernel) (by omega)
              refine lv_aload_n (pc := 46) E.1 E.2.1 dX2_value_46 rfl (lv_at hl20 3 rfl) ?_
              refine x_get (pc := 47) (T := TX2) (N := 9) (ci := 2) (v := .ref (mr 5)) E hw11 inX2 0 4 q_389 rfl rfl (by decide) rfl rfl dX2_value_47 ?_
              refine va_alen (pc := 50) E.1 E.2.1 E.2.2.2.2.2 hw11.1 3 0 rfl rfl (v := 64) (show Int32.ofNat 64 = 64 from by decide +kernel) dX2_value_50 ?_
              refine lv_icmp_ge (pc := 51) (tgt := 158) E.1 E.2.1 dX2_value_51 (by decide) (fun c_62 => ?_) (fun c_62 => ?_)
              · skip
                have hc_62 := leE (a := 64) (b := v_61.toInt) (by decide +kernel) rfl c_62
                obtain ⟨v_63, ev_63⟩ : ∃ z : Int32, x_8 + Int32.ofInt (1) = z := ⟨_, rfl⟩
                have hv_63 : v_63.toInt = x_8.toInt + (1) := by rw [← ev_63]; exact incE rfl (by decide) (by omega)
                refine lv_iinc (pc := 158) (v := v_63) (lv' := [(5, .int v_63), (6, .int v_19), (4, .int x_7), (0, .ref (mr 0)), (1, .int z_start), (2, .int z_end), (3, .ref (mr 10))]) E.1 E.2.1 dX2_value_158 hl20 (k := 1) rfl ev_63 (by decide) rfl (fun ls hl64 => ?_)
                refine lv_goto (pc := 161) (tgt := 6) E.1 E.2.1 dX2_value_161 (by decide) ?_
                exact ih_10 x_7 v_63 g_9 _ _ _ ⟨hi_9_0, hi_9_1, (by show 0 ≤ v_63.toInt; omega), (by show v_63.toInt ≤ 400; omega)⟩ (by omega) hw11 (lv_sub hl64 [0, 2, 3, 4, 5, 6] rfl)
              · skip
                have hc_62 := nleE (a := 64) (b := v_61.toInt) (by decide +kernel) rfl c_62
                obtain ⟨v_65, ev_65⟩ : ∃ z : Int32, x_7 + Int32.ofInt (1) = z := ⟨_, rfl⟩
                have hv_65 : v_65.toInt = x_7.toInt + (1) := by rw [← ev_65]; exact incE rfl (by decide) (by omega)
                refine lv_iinc (pc := 54) (v := v_65) (lv' := [(4, .int v_65), (6, .int v_19), (5, .int x_8), (0, .ref (mr 0)), (1, .int z_start), (2, .int z_end), (3, .ref (mr 10))]) E.1 E.2.1 dX2_value_54 hl20 (k := 2) rfl ev_65 (by decide) rfl (fun ls hl66 => ?_)
                refine lv_aload_n (pc := 57) E.1 E.2.1 dX2_value_57 rfl (lv_at hl66 3 rfl) ?_
                refine x_get (pc := 58) (T := TX2) (N := 9) (ci := 2) (v := .ref (mr 5)) E hw11 inX2 0 4 q_389 rfl rfl (by decide) rfl rfl dX2_value_58 ?_
                refine lv_iload (pc := 61) E.1 E.2.1 dX2_value_61 (lv_at hl66 0 rfl) ?_
                refine lv_iload (pc := 63) E.1 E.2.1 dX2_value_63 (lv_at hl66 1 rfl) ?_
                refine lv_if_ge (pc := 65) (tgt := 75) E.1 E.2.1 dX2_value_65 (by decide) (fun _ => ?_) (fun c_67 => absurd (mleE (a := 0) (b := v_19.toInt) (by decide +kernel) rfl (by omega)) c_67)
                refine lv_iload (pc := 75) E.1 E.2.1 dX2_value_75 (lv_at hl66 1 rfl) ?_
                refine lv_sipush (pc := 77) (v := 261) E.1 E.2.1 dX2_value_77 (by decide +kernel) ?_
                refine lv_isub (pc := 80) E.1 E.2.1 dX2_value_80 ?_
                refine lv_topi (fun v_68 ev_68 => ?_)
                refine lv_aload_n (pc := 81) E.1 E.2.1 dX2_value_81 rfl (lv_at hl66 6 rfl) ?_
                refine ck_i (pc := 82) (ws' := (fun (u : Unit) => (WZ_LawR cI cJ mr mi (va_up mf 5 g_9) mg))) [false, false, false, false, false, true] hw11 rfl (fun hC_ => (rn_S (As := [.int v_68, .ref (mr 10)]) (rest := [.int v_65, .ref (mr 5)]) E hw11 (t_reading l D cI cJ _ (shf 10 mr) (shf 10 mi) (shf 10 (va_up mf 5 g_9)) (shf 10 mg) v_68) (gdS q_1056 q_1057 q_157 q_1058) hdV_X2_reading ⟨rfl, rfl⟩ ⟨(Nat.le_of_ble_eq_true rfl), (Nat.le_of_ble_eq_true rfl)⟩ ⟨(Nat.le_of_ble_eq_true rfl), (Nat.le_of_ble_eq_true rfl)⟩ xT_b xT_at _ hC_ (nd_T _ 0) rfl hl66.1 rfl (Nat.le_of_ble_eq_true rfl) dX2_value_82)) rfl (fun _ => rfl) (fun _ => rfl) (fun r_70 u_69 H1 locs hp hw71 => ?_)
                generalize H1 = H at hw71 ⊢
                have hw72 : WD D A s.heap (WZ_LawR cI cJ mr mi (va_up mf 5 g_9) mg) H locs := hw71
                refine x_iastG (pc := 85) (f := g_9) (wf := fun g => (WZ_LawR cI cJ mr mi (va_up mf 5 g) mg)) E hw72 3 rfl (inbE (a := v_65.toInt) rfl (by omega)) (fun _ => rfl) dX2_value_85 (fun g_73 H locs eg_73 hw74 => ?_)
                refine lv_goto (pc := 86) (tgt := 158) E.1 E.2.1 dX2_value_86 (by decide) ?_
                obtain ⟨v_75, ev_75⟩ : ∃ z : Int32, x_8 + Int32.ofInt (1) = z := ⟨_, rfl⟩
                have hv_75 : v_75.toInt = x_8.toInt + (1) := by rw [← ev_75]; exact incE rfl (by decide) (by omega)
                refine lv_iinc (pc := 158) (v := v_75) (lv' := [(5, .int v_75), (4, .int v_65), (6, .int v_19), (0, .ref (mr 0)), (1, .int z_start), (2, .int z_end), (3, .ref (mr 10))]) E.1 E.2.1 dX2_value_158 hl66 (k := 2) rfl ev_75 (by decide) rfl (fun ls hl76 => ?_)
                refine lv_goto (pc := 161) (tgt := 6) E.1 E.2.1 dX2_value_161 (by decide) ?_
                exact ih_10 v_65 v_75 g_73 _ _ _ ⟨(by show (-1) ≤ v_65.toInt; omega), (by show v_65.toInt ≤ 63; omega), (by show 0 ≤ v_75.toInt; omega), (by show v_75.toInt ≤ 400; omega)⟩ (by omega) hw74 (lv_sub hl76 [0, 1, 3, 4, 5, 6] rfl)
  exact loop_6 (Int.toNat (400 - z_start.toInt) + 1) (-1) z_start (mf 5) _ _ _ ⟨(by show (-1) ≤ ((-1) : Int32).toInt; have k_0 : ((-1) : Int32).toInt = -1 := (by decide +kernel); omega), (by show ((-1) : Int32).toInt ≤ 63; have k_0 : ((-1) : Int32).toInt = -1 := (by decide +kernel); omega), h0.1, h0.2⟩ (by have k_0 : ((-1) : Int32).toInt = -1 := (by decide +kernel); omega) hw1 (lv_sub hl5 [0, 1, 2, 3, 4, 5] rfl)
set_option maxHeartbeats 4000000 in
set_option maxRecDepth 100000 in
theorem t_tells (l : Launch) (D : va_G) (cI cJ : ClassId) (sz : Nat) (mr : Nat → Nat) (mi : Nat → Int32) (mf : Nat → Nat → Int32) (mg : Nat → Nat → Int64) (z_without : Int32) (a_marks : m4 (mf 3)) : Met l yX2_tells (Cond.code yX2_tells cX2_tells 6 (some .int) :: GW) ({ frames := 3, cells := 0, slots := 0, locals := 88 } : Room) (va_Pc [.ref (mr 0), .ref (mr 10), .int z_without] (PW D cI cJ sz (WZ_LawR cI cJ mr mi mf mg) xT)) (va_Qi (fun (r : Int32) (u : (Nat → Int32)) => True) (fun u => QW D cI cJ (va_A (WZ_LawR cI cJ mr mi mf mg) sz) ((fun (u : (Nat → Int32)) => (WZ_LawR cI cJ mr mi (va_up mf 5 u) mg)) u)) (va_A (WZ_LawR cI cJ mr mi mf mg) sz)) 0 0 (va_A (WZ_LawR cI cJ mr mi mf mg) sz) := by
  refine mk_met (y := yX2_tells) (bytes := cX2_tells) (maxL := 6) (avs := [.ref (mr 0), .ref (mr 10), .int z_without]) (WS := (WZ_LawR cI cJ mr mi mf mg)) (Qf := fun A => va_Qi (fun (r : Int32) (u : (Nat → Int32)) => True) (fun u => QW D cI cJ A ((fun (u : (Nat → Int32)) => (WZ_LawR cI cJ mr mi (va_up mf 5 u) mg)) u)) A) (by decide) (Nat.le_of_ble_eq_true rfl) ?_
  intro p e s m below meth c A ls E hr hlk hnm hX hw1 hl2
  have hl3 : lv_has ls 6 [(0, .ref (mr 0)), (1, .ref (mr 10)), (2, .int z_without)] := hl2
  refine lv_iconst (pc := 0) (v := 0) E.1 E.2.1 dX2_tells_0 (by decide +kernel) ?_
  refine lv_istore_n (pc := 1) (lv' := [(3, .int 0), (0, .ref (mr 0)), (1, .ref (mr 10)), (2, .int z_without)]) E.1 E.2.1 dX2_tells_1 rfl hl3 (by decide) rfl (fun ls hl4 => ?_)
  have loop_5 : ∀ (k : Nat) (x_6 : Int32) (g_7 : Nat → Int32) (H : Heap) (locs : List Loc) (ls : Array Slot), (0 ≤ x_6.toInt) ∧ (x_6.toInt ≤ 16) → 16 - x_6.toInt < (k : Int) → WD D A s.heap (WZ_LawR cI cJ mr mi (va_up mf 5 g_7) mg) H locs → lv_has ls 6 [(3, .int x_6), (0, .ref (mr 0)), (1, .ref (mr 10)), (2, .int z_without)] → W p l e ({ frames := 3, cells := 0, slots := 0, locals := 88 } : Room) s m ([.ref (mr 0), .ref (mr 10), .int z_without] : List Value).toArray below meth c H locs 0 0 (MQ below (va_Qi (fun (r : Int32) (u : (Nat → Int32)) => True) (fun u => QW D cI cJ A ((fun (u : (Nat → Int32)) => (WZ_LawR cI cJ mr mi (va_up mf 5 u) mg)) u)) A) ([.ref (mr 0), .ref (mr 10), .int z_without] : List Value).toArray s 0 0 A) (F0 m 2 ls []) := by
    intro k
    induction k with
    | zero =>
      intro x_6 g_7 _ _ _ hinv hm
      obtain ⟨hi_7_0, hi_7_1⟩ := hinv
      exact absurd hm (by omega)
    | succ k ih_8 =>
      intro x_6 g_7 H locs ls hinv hm hw9 hl10
      obtain ⟨hi_7_0, hi_7_1⟩ := hinv
      refine lv_iload_n (pc := 2) E.1 E.2.1 dX2_tells_2 rfl (lv_at hl10 0 rfl) ?_
      refine lv_aload_n (pc := 3) E.1 E.2.1 dX2_tells_3 rfl (lv_at hl10 1 rfl) ?_
      refine x_get (pc := 4) (T := TX2) (N := 9) (ci := 2) (v := .int (mi 4)) E hw9 inX2 0 3 q_387 rfl rfl (by decide) rfl rfl dX2_tells_4 ?_
      refine lv_icmp_ge (pc := 7) (tgt := 81) E.1 E.2.1 dX2_tells_7 (by decide) (fun c_11 => ?_) (fun c_11 => ?_)
      · skip
        have hc_11 := leE (a := (mi 4).toInt) (b := x_6.toInt) rfl rfl c_11
        refine lv_iload_n (pc := 81) E.1 E.2.1 dX2_tells_81 rfl (lv_at hl10 3 rfl) ?_
        exact em_i (w1 := (fun (u : (Nat → Int32)) => (WZ_LawR cI cJ mr mi (va_up mf 5 u) mg))) E hr hlk g_7 hw9 trivial (Nat.le_of_ble_eq_true rfl) (Nat.le_of_ble_eq_true rfl) dX2_tells_82
      · skip
        have hc_11 := nleE (a := (mi 4).toInt) (b := x_6.toInt) rfl rfl c_11
        refine lv_iload_n (pc := 10) E.1 E.2.1 dX2_tells_10 rfl (lv_at hl10 0 rfl) ?_
        refine lv_bipush (pc := 11) (v := 16) E.1 E.2.1 dX2_tells_11 (by decide +kernel) ?_
        refine lv_icmp_ge (pc := 13) (tgt := 81) E.1 E.2.1 dX2_tells_13 (by decide) (fun c_12 => ?_) (fun c_12 => ?_)
        · skip
          have hc_12 := leE (a := 16) (b := x_6.toInt) (by decide +kernel) rfl c_12
          refine lv_iload_n (pc := 81) E.1 E.2.1 dX2_tells_81 rfl (lv_at hl10 3 rfl) ?_
          exact em_i (w1 := (fun (u : (Nat → Int32)) => (WZ_LawR cI cJ mr mi (va_up mf 5 u) mg))) E hr hlk g_7 hw9 trivial (Nat.le_of_ble_eq_true rfl) (Nat.le_of_ble_eq_true rfl) dX2_tells_82
        · skip
          have hc_12 := nleE (a := 16) (b := x_6.toInt) (by decide +kernel) rfl c_12
          refine lv_aload_n (pc := 16) E.1 E.2.1 dX2_tells_16 rfl (lv_at hl10 1 rfl) ?_
          refine x_get (pc := 17) (T := TX2) (N := 9) (ci := 2) (v := .ref (mr 3)) E hw9 inX2 0 2 q_386 rfl rfl (by decide) rfl rfl dX2_tells_17 ?_
          refine lv_iconst (pc := 20) (v := 2) E.1 E.2.1 dX2_tells_20 (by decide +kernel) ?_
          refine lv_iload_n (pc := 21) E.1 E.2.1 dX2_tells_21 rfl (lv_at hl10 0 rfl) ?_
          refine lv_imul (pc := 22) E.1 E.2.1 dX2_tells_22 ?_
          refine lv_topi (fun v_13 ev_13 => ?_)
          have hv_13 : v_13.toInt = 2 * x_6.toInt := by rw [ev_13]; exact mulE (by decide +kernel) rfl (by omega)
          refine lv_iconst (pc := 23) (v := 1) E.1 E.2.1 dX2_tells_23 (by decide +kernel) ?_
          refine lv_iadd (pc := 24) E.1 E.2.1 dX2_tells_24 ?_
          refine lv_topi (fun v_14 ev_14 => ?_)
          have hv_14 : v_14.toInt = v_13.toInt + 1 := by rw [ev_14]; exact addE rfl (by decide +kernel) (by omega)
          refine x_iald (pc := 25) (f := (mf 3)) E hw9 2 rfl (inbE (a := v_14.toInt) rfl (by omega)) dX2_tells_25 ?_
          refine lv_topi (fun v_15 ev_15 => ?_)
          have hbv_15 := allR_at (n := 33) (lo := 0) (hi := 400) a_marks ev_15 (by show 0 ≤ v_14.toInt ∧ _; omega)
          refine lv_istore (pc := 26) (lv' := [(4, .int v_15), (3, .int x_6), (0, .ref (mr 0)), (1, .ref (mr 10)), (2, .int z_without)]) E.1 E.2.1 dX2_tells_26 hl10 (by decide) rfl (fun ls hl16 => ?_)
          refine lv_aload_n (pc := 28) E.1 E.2.1 dX2_tells_28 rfl (lv_at hl16 2 rfl) ?_
          refine x_get (pc := 29) (T := TX2) (N := 9) (ci := 2) (v := .ref (mr 3)) E hw9 inX2 0 2 q_386 rfl rfl (by decide) rfl rfl dX2_tells_29 ?_
          refine lv_iconst (pc := 32) (v := 2) E.1 E.2.1 dX2_tells_32 (by decide +kernel) ?_
          refine lv_iload_n (pc := 33) E.1 E.2.1 dX2_tells_33 rfl (lv_at hl16 1 rfl) ?_
          refine lv_imul (pc := 34) E.1 E.2.1 dX2_tells_34 ?_
          refine lv_topi (fun v_17 ev_17 => ?_)
          have hv_17 : v_17.toInt = 2 * x_6.toInt := by rw [ev_17]; exact mulE (by decide +kernel) rfl (by omega)
          refine lv_iconst (pc := 35) (v := 2) E.1 E.2.1 dX2_tells_35 (by decide +kernel) ?_
          refine lv_iadd (pc := 36) E.1 E.2.1 dX2_tells_36 ?_
          refine lv_topi (fun v_18 ev_18 => ?_)
          have hv_18 : v_18.toInt = v_17.toInt + 2 := by rw [ev_18]; exact addE rfl (by decide +kernel) (by omega)
          refine x_iald (pc := 37) (f := (mf 3)) E hw9 2 rfl (inbE (a := v_18.toInt) rfl (by omega)) dX2_tells_37 ?_
          refine lv_topi (fun v_19 ev_19 => ?_)
          have hbv_19 := allR_at (n := 33) (lo := 0) (hi := 400) a_marks ev_19 (by show 0 ≤ v_18.toInt ∧ _; omega)
          refine lv_istore (pc := 38) (lv' := [(5, .int v_19), (4, .int v_15), (3, .int x_6), (0, .ref (mr 0)), (1, .ref (mr 10)), (2, .int z_without)]) E.1 E.2.1 dX2_tells_38 hl16 (by decide) rfl (fun ls hl20 => ?_)
          refine lv_iload (pc := 40) E.1 E.2.1 dX2_tells_40 (lv_at hl20 1 rfl) ?_
          refine lv_iload (pc := 42) E.1 E.2.1 dX2_tells_42 (lv_at hl20 0 rfl) ?_
          refine lv_icmp_eq (pc := 44) (tgt := 59) E.1 E.2.1 dX2_tells_44 (by decide) (fun c_21 => ?_) (fun c_21 => ?_)
          · skip
            have hc_21 := eqE (a := v_15.toInt) (b := v_19.toInt) rfl rfl c_21
            refine lv_aload_n (pc := 59) E.1 E.2.1 dX2_tells_59 rfl (lv_at hl20 3 rfl) ?_
            refine lv_aload_n (pc := 60) E.1 E.2.1 dX2_tells_60 rfl (lv_at hl20 3 rfl) ?_
            refine x_get (pc := 61) (T := TX2) (N := 9) (ci := 2) (v := .ref (mr 3)) E hw9 inX2 0 2 q_386 rfl rfl (by decide) rfl rfl dX2_tells_61 ?_
            refine lv_iconst (pc := 64) (v := 2) E.1 E.2.1 dX2_tells_64 (by decide +kernel) ?_
            refine lv_iload_n (pc := 65) E.1 E.2.1 dX2_tells_65 rfl (lv_at hl20 2 rfl) ?_
            refine lv_imul (pc := 66) E.1 E.2.1 dX2_tells_66 ?_
            refine lv_topi (fun v_22 ev_22 => ?_)
            have hv_22 : v_22.toInt = 2 * x_6.toInt := by rw [ev_22]; exact mulE (by decide +kernel) rfl (by omega)
            refine x_iald (pc := 67) (f := (mf 3)) E hw9 2 rfl (inbE (a := v_22.toInt) rfl (by omega)) dX2_tells_67 ?_
            refine lv_topi (fun v_23 ev_23 => ?_)
            have hbv_23 := allR_at (n := 33) (lo := 0) (hi := 400) a_marks ev_23 (by show 0 ≤ v_22.toInt ∧ _; omega)
            refine lv_iload (pc := 68) E.1 E.2.1 dX2_tells_68 (lv_at hl20 1 rfl) ?_
            refine lv_aload_n (pc := 70) E.1 E.2.1 dX2_tells_70 rfl (lv_at hl20 4 rfl) ?_
            refine ck_i (pc := 71) (ws' := (fun (u : (Nat → Int32)) => (WZ_LawR cI cJ mr mi (va_up mf 5 u) mg))) [true, true, true, true, true, true] hw9 rfl (fun hC_ => (rn_V (As := [.int v_23, .int v_15, .ref (mr 10)]) (rest := []) E hw9 (t_value l D cI cJ _ mr mi (va_up mf 5 g_7) mg v_23 v_15 (by show 0 ≤ v_23.toInt ∧ v_23.toInt ≤ 400; omega)) (gdV q_1052 q_1054 q_24 q_157 q_1055) hdV_X2_value ⟨rfl, rfl⟩ ⟨(Nat.le_of_ble_eq_true rfl), (Nat.le_of_ble_eq_true rfl)⟩ ⟨(Nat.le_of_ble_eq_true rfl), (Nat.le_of_ble_eq_true rfl)⟩ xT_b xT_at 0 2 rfl rfl rfl _ hC_ (nd_T _ 0) rfl hl20.1 rfl (Nat.le_of_ble_eq_true rfl) dX2_tells_71)) rfl (fun _ => rfl) (fun _ => rfl) (fun r_25 u_24 H1 locs hp hw26 => ?_)
            obtain ⟨gstack_27, rfl⟩ : ∃ z, z = u_24 := ⟨_, rfl⟩
            generalize H1 = H at hw26 ⊢
            have hw28 : WD D A s.heap (WZ_LawR cI cJ mr mi (va_up mf 5 gstack_27) mg) H locs := hw26
            exact em_i (w1 := (fun (u : (Nat → Int32)) => (WZ_LawR cI cJ mr mi (va_up mf 5 u) mg))) E hr hlk gstack_27 hw28 trivial (Nat.le_of_ble_eq_true rfl) (Nat.le_of_ble_eq_true rfl) dX2_tells_74
          · skip
            have hc_21 := neE (a := v_15.toInt) (b := v_19.toInt) rfl rfl c_21
            refine lv_aload_n (pc := 47) E.1 E.2.1 dX2_tells_47 rfl (lv_at hl20 3 rfl) ?_
            refine lv_iload (pc := 48) E.1 E.2.1 dX2_tells_48 (lv_at hl20 1 rfl) ?_
            refine lv_iload (pc := 50) E.1 E.2.1 dX2_tells_50 (lv_at hl20 0 rfl) ?_
            refine lv_aload_n (pc := 52) E.1 E.2.1 dX2_tells_52 rfl (lv_at hl20 4 rfl) ?_
            refine ck_i (pc := 53) (ws' := (fun (u : (Nat → Int32)) => (WZ_LawR cI cJ mr mi (va_up mf 5 u) mg))) [true, true, true, true, true, true] hw9 rfl (fun hC_ => (rn_V (As := [.int v_15, .int v_19, .ref (mr 10)]) (rest := []) E hw9 (t_value l D cI cJ _ mr mi (va_up mf 5 g_7) mg v_15 v_19 (by show 0 ≤ v_15.toInt ∧ v_15.toInt ≤ 400; omega)) (gdV q_1052 q_1054 q_24 q_157 q_1055) hdV_X2_value ⟨rfl, rfl⟩ ⟨(Nat.le_of_ble_eq_true rfl), (Nat.le_of_ble_eq_true rfl)⟩ ⟨(Nat.le_of_ble_eq_true rfl), (Nat.le_of_ble_eq_true rfl)⟩ xT_b xT_at 0 2 rfl rfl rfl _ hC_ (nd_T _ 0) rfl hl20.1 rfl (Nat.le_of_ble_eq_true rfl) dX2_tells_53)) rfl (fun _ => rfl) (fun _ => rfl) (fun r_30 u_29 H1 locs hp hw31 => ?_)
            obtain ⟨gstack_32, rfl⟩ : ∃ z, z = u_29 := ⟨_, rfl⟩
            generalize H1 = H at hw31 ⊢
            have hw33 : WD D A s.heap (WZ_LawR cI cJ mr mi (va_up mf 5 gstack_32) mg) H locs := hw31
            refine lv_if_eq (pc := 56) (tgt := 75) E.1 E.2.1 dX2_tells_56 (by decide) (fun c_34 => ?_) (fun c_34 => ?_)
            · skip
              have hc_34 := eqE (a := r_30.toInt) (b := 0) rfl (by decide +kernel) c_34
              obtain ⟨v_35, ev_35⟩ : ∃ z : Int32, x_6 + Int32.ofInt (1) = z := ⟨_, rfl⟩
              have hv_35 : v_35.toInt = x_6.toInt + (1) := by rw [← ev_35]; exact incE rfl (by decide) (by omega)
              refine lv_iinc (pc := 75) (v := v_35) (lv' := [(3, .int v_35), (5, .int v_19), (4, .int v_15), (0, .ref (mr 0)), (1, .ref (mr 10)), (2, .int z_without)]) E.1 E.2.1 dX2_tells_75 hl20 (k := 2) rfl ev_35 (by decide) rfl (fun ls hl36 => ?_)
              refine lv_goto (pc := 78) (tgt := 2) E.1 E.2.1 dX2_tells_78 (by decide) ?_
              exact ih_8 v_35 gstack_32 _ _ _ ⟨(by show 0 ≤ v_35.toInt; omega), (by show v_35.toInt ≤ 16; omega)⟩ (by omega) hw33 (lv_sub hl36 [0, 3, 4, 5] rfl)
            · skip
              have hc_34 := neE (a := r_30.toInt) (b := 0) rfl (by decide +kernel) c_34
              refine lv_aload_n (pc := 59) E.1 E.2.1 dX2_tells_59 rfl (lv_at hl20 3 rfl) ?_
              refine lv_aload_n (pc := 60) E.1 E.2.1 dX2_tells_60 rfl (lv_at hl20 3 rfl) ?_
              refine x_get (pc := 61) (T := TX2) (N := 9) (ci := 2) (v := .ref (mr 3)) E hw33 inX2 0 2 q_386 rfl rfl (by decide) rfl rfl dX2_tells_61 ?_
              refine lv_iconst (pc := 64) (v := 2) E.1 E.2.1 dX2_tells_64 (by decide +kernel) ?_
              refine lv_iload_n (pc := 65) E.1 E.2.1 dX2_tells_65 rfl (lv_at hl20 2 rfl) ?_
              refine lv_imul (pc := 66) E.1 E.2.1 dX2_tells_66 ?_
              refine lv_topi (fun v_37 ev_37 => ?_)
              have hv_37 : v_37.toInt = 2 * x_6.toInt := by rw [ev_37]; exact mulE (by decide +kernel) rfl (by omega)
              refine x_iald (pc := 67) (f := (mf 3)) E hw33 2 rfl (inbE (a := v_37.toInt) rfl (by omega)) dX2_tells_67 ?_
              refine lv_topi (fun v_38 ev_38 => ?_)
              have hbv_38 := allR_at (n := 33) (lo := 0) (hi := 400) a_marks ev_38 (by show 0 ≤ v_37.toInt ∧ _; omega)
              refine lv_iload (pc := 68) E.1 E.2.1 dX2_tells_68 (lv_at hl20 1 rfl) ?_
              refine lv_aload_n (pc := 70) E.1 E.2.1 dX2_tells_70 rfl (lv_at hl20 4 rfl) ?_
              refine ck_i (pc := 71) (ws' := (fun (u : (Nat → Int32)) => (WZ_LawR cI cJ mr mi (va_up mf 5 u) mg))) [true, true, true, true, true, true] hw33 rfl (fun hC_ => (rn_V (As := [.int v_38, .int v_15, .ref (mr 10)]) (rest := []) E hw33 (t_value l D cI cJ _ mr mi (va_up mf 5 gstack_32) mg v_38 v_15 (by show 0 ≤ v_38.toInt ∧ v_38.toInt ≤ 400; omega)) (gdV q_1052 q_1054 q_24 q_157 q_1055) hdV_X2_value ⟨rfl, rfl⟩ ⟨(Nat.le_of_ble_eq_true rfl), (Nat.le_of_ble_eq_true rfl)⟩ ⟨(Nat.le_of_ble_eq_true rfl), (Nat.le_of_ble_eq_true rfl)⟩ xT_b xT_at 0 2 rfl rfl rfl _ hC_ (nd_T _ 0) rfl hl20.1 rfl (Nat.le_of_ble_eq_true rfl) dX2_tells_71)) rfl (fun _ => rfl) (fun _ => rfl) (fun r_40 u_39 H1 locs hp hw41 => ?_)
              obtain ⟨gstack_42, rfl⟩ : ∃ z, z = u_39 := ⟨_, rfl⟩
              generalize H1 = H at hw41 ⊢
              have hw43 : WD D A s.heap (WZ_LawR cI cJ mr mi (va_up mf 5 gstack_42) mg) H locs := hw41
              exact em_i (w1 := (fun (u : (Nat → Int32)) => (WZ_LawR cI cJ mr mi (va_up mf 5 u) mg))) E hr hlk gstack_42 hw43 trivial (Nat.le_of_ble_eq_true rfl) (Nat.le_of_ble_eq_true rfl) dX2_tells_74
  exact loop_5 (Int.toNat (16 - 0) + 1) 0 (mf 5) _ _ _ ⟨(by show 0 ≤ (0 : Int32).toInt; have k_0 : (0 : Int32).toInt = 0 := (by decide +kernel); omega), (by show (0 : Int32).toInt ≤ 16; have k_0 : (0 : Int32).toInt = 0 := (by decide +kernel); omega)⟩ (by have k_0 : (0 : Int32).toInt = 0 := (by decide +kernel); omega) hw1 (lv_sub hl4 [0, 1, 2, 3] rfl)
set_option maxHeartbeats 4000000 in
set_option maxRecDepth 100000 in
theorem t_emit (l : Launch) (D : va_G) (cI cJ : ClassId) (sz : Nat) (mr : Nat → Nat) (mi : Nat → Int32) (mf : Nat → Nat → Int32) (mg : Nat → Nat → Int64) (z_what : Int32) (h0 : 0 ≤ (mi 2).toInt ∧ (mi 2).toInt ≤ 400) : Met l yX2_emit (Cond.code yX2_emit cX2_emit 2 none :: GW) ({ frames := 1, cells := 0, slots := 0, locals := 40 } : Room) (va_Pc [.ref (mr 0), .int z_what] (PW D cI cJ sz (WZ_Law cI cJ mr mi mf mg) xT)) (va_Qv (fun (u : (Nat → Int32) × Int32) => (0 ≤ u.2.toInt) ∧ (u.2.toInt ≤ 400)) (fun u => QW D cI cJ (va_A (WZ_Law cI cJ mr mi mf mg) sz) ((fun (u : (Nat → Int32) × Int32) => (WZ_Law cI cJ mr (upd mi 2 u.2) (va_up mf 1 u.1) mg)) u)) (va_A (WZ_Law cI cJ mr mi mf mg) sz)) 0 0 (va_A (WZ_Law cI cJ mr mi mf mg) sz) := by
  refine mk_met (y := yX2_emit) (bytes := cX2_emit) (maxL := 2) (avs := [.ref (mr 0), .int z_what]) (WS := (WZ_Law cI cJ mr mi mf mg)) (Qf := fun A => va_Qv (fun (u : (Nat → Int32) × Int32) => (0 ≤ u.2.toInt) ∧ (u.2.toInt ≤ 400)) (fun u => QW D cI cJ A ((fun (u : (Nat → Int32) × Int32) => (WZ_Law cI cJ mr (upd mi 2 u.2) (va_up mf 1 u.1) mg)) u)) A) (by decide) (Nat.le_of_ble_eq_true rfl) ?_
  intro p e s m below meth c A ls E hr hlk hnm hX hw1 hl2
  have hl3 : lv_has ls 2 [(0, .ref (mr 0)), (1, .int z_what)] := hl2
  refine lv_iload_n (pc := 0) E.1 E.2.1 dX2_emit_0 rfl (lv_at hl3 1 rfl) ?_
  refine lv_if_eq (pc := 1) (tgt := 34) E.1 E.2.1 dX2_emit_1 (by decide) (fun c_4 => ?_) (fun c_4 => ?_)
  · skip
    have hc_4 := eqE (a := z_what.toInt) (b := 0) rfl (by decide +kernel) c_4
    exact em_v (w1 := (fun (u : (Nat → Int32) × Int32) => (WZ_Law cI cJ mr (upd mi 2 u.2) (va_up mf 1 u.1) mg))) E hr hlk ((mf 1), (mi 2)) hw1 ⟨h0.1, h0.2⟩ (Nat.le_of_ble_eq_true rfl) (Nat.le_of_ble_eq_true rfl) dX2_emit_34
  · skip
    have hc_4 := neE (a := z_what.toInt) (b := 0) rfl (by decide +kernel) c_4
    refine lv_aload_n (pc := 4) E.1 E.2.1 dX2_emit_4 rfl (lv_at hl3 0 rfl) ?_
    refine x_get (pc := 5) (T := TX2) (N := 9) (ci := 2) (v := .int (mi 2)) E hw1 inX2 0 1 q_385 rfl rfl (by decide) rfl rfl dX2_emit_5 ?_
    refine lv_sipush (pc := 8) (v := 400) E.1 E.2.1 dX2_emit_8 (by decide +kernel) ?_
    refine lv_icmp_ge (pc := 11) (tgt := 34) E.1 E.2.1 dX2_emit_11 (by decide) (fun c_5 => ?_) (fun c_5 => ?_)
    · skip
      have hc_5 := leE (a := 400) (b := (mi 2).toInt) (by decide +kernel) rfl c_5
      exact em_v (w1 := (fun (u : (Nat → Int32) × Int32) => (WZ_Law cI cJ mr (upd mi 2 u.2) (va_up mf 1 u.1) mg))) E hr hlk ((mf 1), (mi 2)) hw1 ⟨h0.1, h0.2⟩ (Nat.le_of_ble_eq_true rfl) (Nat.le_of_ble_eq_true rfl) dX2_emit_34
    · skip
      have hc_5 := nleE (a := 400) (b := (mi 2).toInt) (by decide +kernel) rfl c_5
      refine lv_aload_n (pc := 14) E.1 E.2.1 dX2_emit_14 rfl (lv_at hl3 0 rfl) ?_
      refine x_get (pc := 15) (T := TX2) (N := 9) (ci := 2) (v := .ref (mr 1)) E hw1 inX2 0 0 q_384 rfl rfl (by decide) rfl rfl dX2_emit_15 ?_
      refine lv_aload_n (pc := 18) E.1 E.2.1 dX2_emit_18 rfl (lv_at hl3 0 rfl) ?_
      refine x_get (pc := 19) (T := TX2) (N := 9) (ci := 2) (v := .int (mi 2)) E hw1 inX2 0 1 q_385 rfl rfl (by decide) rfl rfl dX2_emit_19 ?_
      refine lv_iload_n (pc := 22) E.1 E.2.1 dX2_emit_22 rfl (lv_at hl3 1 rfl) ?_
      refine x_iastG (pc := 23) (f := (mf 1)) (wf := fun g => (WZ_Law cI cJ mr mi (va_up mf 1 g) mg)) E hw1 1 rfl (inbE (a := (mi 2).toInt) rfl (by omega)) (fun _ => rfl) dX2_emit_23 (fun g_6 H locs eg_6 hw7 => ?_)
      refine lv_aload_n (pc := 24) E.1 E.2.1 dX2_emit_24 rfl (lv_at hl3 0 rfl) ?_
      refine lv_dup (pc := 25) E.1 E.2.1 dX2_emit_25 rfl ?_
      refine x_get (pc := 26) (T := TX2) (N := 9) (ci := 2) (v := .int (mi 2)) E hw7 inX2 0 1 q_385 rfl rfl (by decide) rfl rfl dX2_emit_26 ?_
      refine lv_iconst (pc := 29) (v := 1) E.1 E.2.1 dX2_emit_29 (by decide +kernel) ?_
      refine lv_iadd (pc := 30) E.1 E.2.1 dX2_emit_30 ?_
      refine lv_topi (fun v_8 ev_8 => ?_)
      have hv_8 : v_8.toInt = (mi 2).toInt + 1 := by rw [ev_8]; exact addE rfl (by decide +kernel) (by omega)
      refine x_put (pc := 31) (T := TX2) (N := 9) (ci := 2) (ws' := (WZ_Law cI cJ mr (upd mi 2 v_8) (va_up mf 1 g_6) mg)) E hw7 inX2 tyX2_ok nmX2 0 1 q_385 rfl rfl (by decide) rfl rfl rfl rfl (Nat.le_of_ble_eq_true rfl) rfl dX2_emit_31 (fun H locs hw9 => ?_)
      exact em_v (w1 := (fun (u : (Nat → Int32) × Int32) => (WZ_Law cI cJ mr (upd mi 2 u.2) (va_up mf 1 u.1) mg))) E hr hlk (g_6, v_8) hw9 ⟨(by show 0 ≤ v_8.toInt; omega), (by show v_8.toInt ≤ 400; omega)⟩ (Nat.le_of_ble_eq_true rfl) (Nat.le_of_ble_eq_true rfl) dX2_emit_34
set_option maxHeartbeats 4000000 in
set_option maxRecDepth 100000 in
theorem t_hold (l : Launch) (D : va_G) (cI cJ : ClassId) (sz : Nat) (mr : Nat → Nat) (mi : Nat → Int32) (mf : Nat → Nat → Int32) (mg : Nat → Nat → Int64) (z_word : Int32) (h0 : 0 ≤ (mi 7).toInt ∧ (mi 7).toInt ≤ 64) : Met l yX2_hold (Cond.code yX2_hold cX2_hold 2 none :: GW) ({ frames := 1, cells := 0, slots := 0, locals := 40 } : Room) (va_Pc [.ref (mr 0), .int z_word] (PW D cI cJ sz (WZ_Law cI cJ mr mi mf mg) xT)) (va_Qv (fun (u : (Nat → Int32) × Int32) => (0 ≤ u.2.toInt) ∧ (u.2.toInt ≤ 64)) (fun u => QW D cI cJ (va_A (WZ_Law cI cJ mr mi mf mg) sz) ((fun (u : (Nat → Int32) × Int32) => (WZ_Law cI cJ mr (upd mi 7 u.2) (va_up mf 6 u.1) mg)) u)) (va_A (WZ_Law cI cJ mr mi mf mg) sz)) 0 0 (va_A (WZ_Law cI cJ mr mi mf mg) sz) := by
  refine mk_met (y := yX2_hold) (bytes := cX2_hold) (maxL := 2) (avs := [.ref (mr 0), .int z_word]) (WS := (WZ_Law cI cJ mr mi mf mg)) (Qf := fun A => va_Qv (fun (u : (Nat → Int32) × Int32) => (0 ≤ u.2.toInt) ∧ (u.2.toInt ≤ 64)) (fun u => QW D cI cJ A ((fun (u : (Nat → Int32) × Int32) => (WZ_Law cI cJ mr (upd mi 7 u.2) (va_up mf 6 u.1) mg)) u)) A) (by decide) (Nat.le_of_ble_eq_true rfl) ?_
  intro p e s m below meth c A ls E hr hlk hnm hX hw1 hl2
  have hl3 : lv_has ls 2 [(0, .ref (mr 0)), (1, .int z_word)] := hl2
  refine lv_aload_n (pc := 0) E.1 E.2.1 dX2_hold_0 rfl (lv_at hl3 0 rfl) ?_
  refine x_get (pc := 1) (T := TX2) (N := 9) (ci := 2) (v := .int (mi 7)) E hw1 inX2 0 6 q_391 rfl rfl (by decide) rfl rfl dX2_hold_1 ?_
  refine lv_aload_n (pc := 4) E.1 E.2.1 dX2_hold_4 rfl (lv_at hl3 0 rfl) ?_
  refine x_get (pc := 5) (T := TX2) (N := 9) (ci := 2) (v := .ref (mr 6)) E hw1 inX2 0 5 q_390 rfl rfl (by decide) rfl rfl dX2_hold_5 ?_
  refine va_alen (pc := 8) E.1 E.2.1 E.2.2.2.2.2 hw1.1 4 0 rfl rfl (v := 64) (show Int32.ofNat 64 = 64 from by decide +kernel) dX2_hold_8 ?_
  refine lv_icmp_ge (pc := 9) (tgt := 32) E.1 E.2.1 dX2_hold_9 (by decide) (fun c_4 => ?_) (fun c_4 => ?_)
  · skip
    have hc_4 := leE (a := 64) (b := (mi 7).toInt) (by decide +kernel) rfl c_4
    exact em_v (w1 := (fun (u : (Nat → Int32) × Int32) => (WZ_Law cI cJ mr (upd mi 7 u.2) (va_up mf 6 u.1) mg))) E hr hlk ((mf 6), (mi 7)) hw1 ⟨h0.1, h0.2⟩ (Nat.le_of_ble_eq_true rfl) (Nat.le_of_ble_eq_true rfl) dX2_hold_32
  · skip
    have hc_4 := nleE (a := 64) (b := (mi 7).toInt) (by decide +kernel) rfl c_4
    refine lv_aload_n (pc := 12) E.1 E.2.1 dX2_hold_12 rfl (lv_at hl3 0 rfl) ?_
    refine x_get (pc := 13) (T := TX2) (N := 9) (ci := 2) (v := .ref (mr 6)) E hw1 inX2 0 5 q_390 rfl rfl (by decide) rfl rfl dX2_hold_13 ?_
    refine lv_aload_n (pc := 16) E.1 E.2.1 dX2_hold_16 rfl (lv_at hl3 0 rfl) ?_
    refine x_get (pc := 17) (T := TX2) (N := 9) (ci := 2) (v := .int (mi 7)) E hw1 inX2 0 6 q_391 rfl rfl (by decide) rfl rfl dX2_hold_17 ?_
    refine lv_iload_n (pc := 20) E.1 E.2.1 dX2_hold_20 rfl (lv_at hl3 1 rfl) ?_
    refine x_iastG (pc := 21) (f := (mf 6)) (wf := fun g => (WZ_Law cI cJ mr mi (va_up mf 6 g) mg)) E hw1 4 rfl (inbE (a := (mi 7).toInt) rfl (by omega)) (fun _ => rfl) dX2_hold_21 (fun g_5 H locs eg_5 hw6 => ?_)
    refine lv_aload_n (pc := 22) E.1 E.2.1 dX2_hold_22 rfl (lv_at hl3 0 rfl) ?_
    refine lv_dup (pc := 23) E.1 E.2.1 dX2_hold_23 rfl ?_
    refine x_get (pc := 24) (T := TX2) (N := 9) (ci := 2) (v := .int (mi 7)) E hw6 inX2 0 6 q_391 rfl rfl (by decide) rfl rfl dX2_hold_24 ?_
    refine lv_iconst (pc := 27) (v := 1) E.1 E.2.1 dX2_hold_27 (by decide +kernel) ?_
    refine lv_iadd (pc := 28) E.1 E.2.1 dX2_hold_28 ?_
    refine lv_topi (fun v_7 ev_7 => ?_)
    have hv_7 : v_7.toInt = (mi 7).toInt + 1 := by rw [ev_7]; exact addE rfl (by decide +kernel) (by omega)
    refine x_put (pc := 29) (T := TX2) (N := 9) (ci := 2) (ws' := (WZ_Law cI cJ mr (upd mi 7 v_7) (va_up mf 6 g_5) mg)) E hw6 inX2 tyX2_ok nmX2 0 6 q_391 rfl rfl (by decide) rfl rfl rfl rfl (Nat.le_of_ble_eq_true rfl) rfl dX2_hold_29 (fun H locs hw8 => ?_)
    exact em_v (w1 := (fun (u : (Nat → Int32) × Int32) => (WZ_Law cI cJ mr (upd mi 7 u.2) (va_up mf 6 u.1) mg))) E hr hlk (g_5, v_7) hw8 ⟨(by show 0 ≤ v_7.toInt; omega), (by show v_7.toInt ≤ 64; omega)⟩ (Nat.le_of_ble_eq_true rfl) (Nat.le_of_ble_eq_true rfl) dX2_hold_32
set_option maxHeartbeats 4000000 in
set_option maxRecDepth 100000 in
theorem t_fold (l : Launch) (D : va_G) (cI cJ : ClassId) (sz : Nat) (mr : Nat → Nat) (mi : Nat → Int32) (mf : Nat → Nat → Int32) (mg : Nat → Nat → Int64) (z_word : Int32) (h0 : 0 ≤ (mi 2).toInt ∧ (mi 2).toInt ≤ 400) (h1 : 0 ≤ (mi 7).toInt ∧ (mi 7).toInt ≤ 64) : Met l yX2_fold (Cond.code yX2_fold cX2_fold 2 none :: GW) ({ frames := 2, cells := 0, slots := 0, locals := 61 } : Room) (va_Pc [.ref (mr 0), .int z_word] (PW D cI cJ sz (WZ_Law cI cJ mr mi mf mg) xT)) (va_Qv (fun (u : (Nat → Int32) × Int32 × Int32) => (0 ≤ u.2.1.toInt) ∧ (u.2.1.toInt ≤ 400) ∧ (0 ≤ u.2.2.toInt) ∧ (u.2.2.toInt ≤ 64)) (fun u => QW D cI cJ (va_A (WZ_Law cI cJ mr mi mf mg) sz) ((fun (u : (Nat → Int32) × Int32 × Int32) => (WZ_Law cI cJ mr (upd (upd mi 2 u.2.1) 7 u.2.2) (va_up mf 1 u.1) mg)) u)) (va_A (WZ_Law cI cJ mr mi mf mg) sz)) 0 0 (va_A (WZ_Law cI cJ mr mi mf mg) sz) := by
  refine mk_met (y := yX2_fold) (bytes := cX2_fold) (maxL := 2) (avs := [.ref (mr 0), .int z_word]) (WS := (WZ_Law cI cJ mr mi mf mg)) (Qf := fun A => va_Qv (fun (u : (Nat → Int32) × Int32 × Int32) => (0 ≤ u.2.1.toInt) ∧ (u.2.1.toInt ≤ 400) ∧ (0 ≤ u.2.2.toInt) ∧ (u.2.2.toInt ≤ 64)) (fun u => QW D cI cJ A ((fun (u : (Nat → Int32) × Int32 × Int32) => (WZ_Law cI cJ mr (upd (upd mi 2 u.2.1) 7 u.2.2) (va_up mf 1 u.1) mg)) u)) A) (by decide) (Nat.le_of_ble_eq_true rfl) ?_
  intro p e s m below meth c A ls E hr hlk hnm hX hw1 hl2
  have hl3 : lv_has ls 2 [(0, .ref (mr 0)), (1, .int z_word)] := hl2
  have loop_4 : ∀ (k : Nat) (x_5 : Int32) (x_6 : Int32) (g_7 : Nat → Int32) (H : Heap) (locs : List Loc) (ls : Array Slot), (0 ≤ x_5.toInt) ∧ (x_5.toInt ≤ 400) ∧ (0 ≤ x_6.toInt) ∧ (x_6.toInt ≤ 64) → x_6.toInt < (k : Int) → WD D A s.heap (WZ_Law cI cJ mr (upd (upd mi 2 x_5) 7 x_6) (va_up mf 1 g_7) mg) H locs → lv_has ls 2 [(0, .ref (mr 0)), (1, .int z_word)] → W p l e ({ frames := 2, cells := 0, slots := 0, locals := 61 } : Room) s m ([.ref (mr 0), .int z_word] : List Value).toArray below meth c H locs 0 0 (MQ below (va_Qv (fun (u : (Nat → Int32) × Int32 × Int32) => (0 ≤ u.2.1.toInt) ∧ (u.2.1.toInt ≤ 400) ∧ (0 ≤ u.2.2.toInt) ∧ (u.2.2.toInt ≤ 64)) (fun u => QW D cI cJ A ((fun (u : (Nat → Int32) × Int32 × Int32) => (WZ_Law cI cJ mr (upd (upd mi 2 u.2.1) 7 u.2.2) (va_up mf 1 u.1) mg)) u)) A) ([.ref (mr 0), .int z_word] : List Value).toArray s 0 0 A) (F0 m 0 ls []) := by
    intro k
    induction k with
    | zero =>
      intro x_5 x_6 g_7 _ _ _ hinv hm
      obtain ⟨hi_7_0, hi_7_1, hi_7_2, hi_7_3⟩ := hinv
      exact absurd hm (by omega)
    | succ k ih_8 =>
      intro x_5 x_6 g_7 H locs ls hinv hm hw9 hl10
      obtain ⟨hi_7_0, hi_7_1, hi_7_2, hi_7_3⟩ := hinv
      refine lv_aload_n (pc := 0) E.1 E.2.1 dX2_fold_0 rfl (lv_at hl10 0 rfl) ?_
      refine x_get (pc := 1) (T := TX2) (N := 9) (ci := 2) (v := .int x_6) E hw9 inX2 0 6 q_391 rfl rfl (by decide) rfl rfl dX2_fold_1 ?_
      refine lv_if_le (pc := 4) (tgt := 67) E.1 E.2.1 dX2_fold_4 (by decide) (fun c_11 => ?_) (fun c_11 => ?_)
      · skip
        have hc_11 := leE (a := x_6.toInt) (b := 0) rfl (by decide +kernel) c_11
        exact em_v (w1 := (fun (u : (Nat → Int32) × Int32 × Int32) => (WZ_Law cI cJ mr (upd (upd mi 2 u.2.1) 7 u.2.2) (va_up mf 1 u.1) mg))) E hr hlk (g_7, x_5, x_6) hw9 ⟨hi_7_0, hi_7_1, hi_7_2, hi_7_3⟩ (Nat.le_of_ble_eq_true rfl) (Nat.le_of_ble_eq_true rfl) dX2_fold_67
      · skip
        have hc_11 := nleE (a := x_6.toInt) (b := 0) rfl (by decide +kernel) c_11
        refine lv_aload_n (pc := 7) E.1 E.2.1 dX2_fold_7 rfl (lv_at hl10 0 rfl) ?_
        refine x_get (pc := 8) (T := TX2) (N := 9) (ci := 2) (v := .ref (mr 6)) E hw9 inX2 0 5 q_390 rfl rfl (by decide) rfl rfl dX2_fold_8 ?_
        refine lv_aload_n (pc := 11) E.1 E.2.1 dX2_fold_11 rfl (lv_at hl10 0 rfl) ?_
        refine x_get (pc := 12) (T := TX2) (N := 9) (ci := 2) (v := .int x_6) E hw9 inX2 0 6 q_391 rfl rfl (by decide) rfl rfl dX2_fold_12 ?_
        refine lv_iconst (pc := 15) (v := 1) E.1 E.2.1 dX2_fold_15 (by decide +kernel) ?_
        refine lv_isub (pc := 16) E.1 E.2.1 dX2_fold_16 ?_
        refine lv_topi (fun v_12 ev_12 => ?_)
        have hv_12 : v_12.toInt = x_6.toInt - 1 := by rw [ev_12]; exact subE rfl (by decide +kernel) (by omega)
        refine x_iald (pc := 17) (f := (mf 6)) E hw9 4 rfl (inbE (a := v_12.toInt) rfl (by omega)) dX2_fold_17 ?_
        refine lv_topi (fun v_13 ev_13 => ?_)
        refine lv_sipush (pc := 18) (v := 259) E.1 E.2.1 dX2_fold_18 (by decide +kernel) ?_
        refine lv_icmp_eq (pc := 21) (tgt := 39) E.1 E.2.1 dX2_fold_21 (by decide) (fun c_14 => ?_) (fun c_14 => ?_)
        · skip
          have hc_14 := eqE (a := v_13.toInt) (b := 259) rfl (by decide +kernel) c_14
          refine lv_aload_n (pc := 39) E.1 E.2.1 dX2_fold_39 rfl (lv_at hl10 0 rfl) ?_
          refine lv_aload_n (pc := 40) E.1 E.2.1 dX2_fold_40 rfl (lv_at hl10 0 rfl) ?_
          refine x_get (pc := 41) (T := TX2) (N := 9) (ci := 2) (v := .ref (mr 6)) E hw9 inX2 0 5 q_390 rfl rfl (by decide) rfl rfl dX2_fold_41 ?_
          refine lv_aload_n (pc := 44) E.1 E.2.1 dX2_fold_44 rfl (lv_at hl10 0 rfl) ?_
          refine x_get (pc := 45) (T := TX2) (N := 9) (ci := 2) (v := .int x_6) E hw9 inX2 0 6 q_391 rfl rfl (by decide) rfl rfl dX2_fold_45 ?_
          refine lv_iconst (pc := 48) (v := 1) E.1 E.2.1 dX2_fold_48 (by decide +kernel) ?_
          refine lv_isub (pc := 49) E.1 E.2.1 dX2_fold_49 ?_
          refine lv_topi (fun v_15 ev_15 => ?_)
          have hv_15 : v_15.toInt = x_6.toInt - 1 := by rw [ev_15]; exact subE rfl (by decide +kernel) (by omega)
          refine x_iald (pc := 50) (f := (mf 6)) E hw9 4 rfl (inbE (a := v_15.toInt) rfl (by omega)) dX2_fold_50 ?_
          refine lv_topi (fun v_16 ev_16 => ?_)
          refine ck_v (pc := 51) (ws' := (fun (u : (Nat → Int32) × Int32) => (WZ_Law cI cJ mr (upd (upd mi 2 u.2) 7 x_6) (va_up mf 1 u.1) mg))) [true, true, true, true, true] hw9 rfl (fun hC_ => (rn_V (As := [.int v_16]) (rest := []) E hw9 (t_emit l D cI cJ _ mr (upd (upd mi 2 x_5) 7 x_6) (va_up mf 1 g_7) mg v_16 ⟨hi_7_0, hi_7_1⟩) (gdV q_873 q_875 q_6 q_157 q_876) hdV_X2_emit ⟨rfl, rfl⟩ ⟨(Nat.le_of_ble_eq_true rfl), (Nat.le_of_ble_eq_true rfl)⟩ ⟨(Nat.le_of_ble_eq_true rfl), (Nat.le_of_ble_eq_true rfl)⟩ xT_b xT_at 0 2 rfl rfl rfl _ hC_ (nd_T _ 0) rfl hl10.1 rfl (Nat.le_of_ble_eq_true rfl) dX2_fold_51)) rfl (fun _ => rfl) (fun _ => rfl) (fun u_17 H1 locs hp hw19 => ?_)
          obtain ⟨gcode_20, nsize_21⟩ := u_17
          generalize H1 = H at hw19 ⊢
          have hw22 : WD D A s.heap (WZ_Law cI cJ mr (upd (upd mi 2 nsize_21) 7 x_6) (va_up mf 1 gcode_20) mg) H locs := hw19
          obtain ⟨hp_23, hp_24⟩ := hp
          have hp_23 : 0 ≤ nsize_21.toInt := hp_23
          have hp_24 : nsize_21.toInt ≤ 400 := hp_24
          refine lv_aload_n (pc := 54) E.1 E.2.1 dX2_fold_54 rfl (lv_at hl10 0 rfl) ?_
          refine lv_dup (pc := 55) E.1 E.2.1 dX2_fold_55 rfl ?_
          refine x_get (pc := 56) (T := TX2) (N := 9) (ci := 2) (v := .int x_6) E hw22 inX2 0 6 q_391 rfl rfl (by decide) rfl rfl dX2_fold_56 ?_
          refine lv_iconst (pc := 59) (v := 1) E.1 E.2.1 dX2_fold_59 (by decide +kernel) ?_
          refine lv_isub (pc := 60) E.1 E.2.1 dX2_fold_60 ?_
          refine lv_topi (fun v_25 ev_25 => ?_)
          have hv_25 : v_25.toInt = x_6.toInt - 1 := by rw [ev_25]; exact subE rfl (by decide +kernel) (by omega)
          refine x_put (pc := 61) (T := TX2) (N := 9) (ci := 2) (ws' := (WZ_Law cI cJ mr (upd (upd mi 2 nsize_21) 7 v_25) (va_up mf 1 gcode_20) mg)) E hw22 inX2 tyX2_ok nmX2 0 6 q_391 rfl rfl (by decide) rfl rfl rfl rfl (Nat.le_of_ble_eq_true rfl) rfl dX2_fold_61 (fun H locs hw26 => ?_)
          refine lv_goto (pc := 64) (tgt := 0) E.1 E.2.1 dX2_fold_64 (by decide) ?_
          exact ih_8 nsize_21 v_25 gcode_20 _ _ _ ⟨hp_23, hp_24, (by show 0 ≤ v_25.toInt; omega), (by show v_25.toInt ≤ 64; omega)⟩ (by omega) hw26 (lv_sub hl10 [0, 1] rfl)
        · skip
          have hc_14 := neE (a := v_13.toInt) (b := 259) rfl (by decide +kernel) c_14
          refine lv_aload_n (pc := 24) E.1 E.2.1 dX2_fold_24 rfl (lv_at hl10 0 rfl) ?_
          refine x_get (pc := 25) (T := TX2) (N := 9) (ci := 2) (v := .ref (mr 6)) E hw9 inX2 0 5 q_390 rfl rfl (by decide) rfl rfl dX2_fold_25 ?_
          refine lv_aload_n (pc := 28) E.1 E.2.1 dX2_fold_28 rfl (lv_at hl10 0 rfl) ?_
          refine x_get (pc := 29) (T := TX2) (N := 9) (ci := 2) (v := .int x_6) E hw9 inX2 0 6 q_391 rfl rfl (by decide) rfl rfl dX2_fold_29 ?_
          refine lv_iconst (pc := 32) (v := 1) E.1 E.2.1 dX2_fold_32 (by decide +kernel) ?_
          refine lv_isub (pc := 33) E.1 E.2.1 dX2_fold_33 ?_
          refine lv_topi (fun v_27 ev_27 => ?_)
          have hv_27 : v_27.toInt = x_6.toInt - 1 := by rw [ev_27]; exact subE rfl (by decide +kernel) (by omega)
          refine x_iald (pc := 34) (f := (mf 6)) E hw9 4 rfl (inbE (a := v_27.toInt) rfl (by omega)) dX2_fold_34 ?_
          refine lv_topi (fun v_28 ev_28 => ?_)
          refine lv_iload_n (pc := 35) E.1 E.2.1 dX2_fold_35 rfl (lv_at hl10 1 rfl) ?_
          refine lv_icmp_ne (pc := 36) (tgt := 67) E.1 E.2.1 dX2_fold_36 (by decide) (fun c_29 => ?_) (fun c_29 => ?_)
          · skip
            have hc_29 := neE (a := v_28.toInt) (b := z_word.toInt) rfl rfl c_29
            exact em_v (w1 := (fun (u : (Nat → Int32) × Int32 × Int32) => (WZ_Law cI cJ mr (upd (upd mi 2 u.2.1) 7 u.2.2) (va_up mf 1 u.1) mg))) E hr hlk (g_7, x_5, x_6) hw9 ⟨hi_7_0, hi_7_1, hi_7_2, hi_7_3⟩ (Nat.le_of_ble_eq_true rfl) (Nat.le_of_ble_eq_true rfl) dX2_fold_67
          · skip
            have hc_29 := eqE (a := v_28.toInt) (b := z_word.toInt) rfl rfl c_29
            refine lv_aload_n (pc := 39) E.1 E.2.1 dX2_fold_39 rfl (lv_at hl10 0 rfl) ?_
            refine lv_aload_n (pc := 40) E.1 E.2.1 dX2_fold_40 rfl (lv_at hl10 0 rfl) ?_
            refine x_get (pc := 41) (T := TX2) (N := 9) (ci := 2) (v := .ref (mr 6)) E hw9 inX2 0 5 q_390 rfl rfl (by decide) rfl rfl dX2_fold_41 ?_
            refine lv_aload_n (pc := 44) E.1 E.2.1 dX2_fold_44 rfl (lv_at hl10 0 rfl) ?_
            refine x_get (pc := 45) (T := TX2) (N := 9) (ci := 2) (v := .int x_6) E hw9 inX2 0 6 q_391 rfl rfl (by decide) rfl rfl dX2_fold_45 ?_
            refine lv_iconst (pc := 48) (v := 1) E.1 E.2.1 dX2_fold_48 (by decide +kernel) ?_
            refine lv_isub (pc := 49) E.1 E.2.1 dX2_fold_49 ?_
            refine lv_topi (fun v_30 ev_30 => ?_)
            have hv_30 : v_30.toInt = x_6.toInt - 1 := by rw [ev_30]; exact subE rfl (by decide +kernel) (by omega)
            refine x_iald (pc := 50) (f := (mf 6)) E hw9 4 rfl (inbE (a := v_30.toInt) rfl (by omega)) dX2_fold_50 ?_
            refine lv_topi (fun v_31 ev_31 => ?_)
            refine ck_v (pc := 51) (ws' := (fun (u : (Nat → Int32) × Int32) => (WZ_Law cI cJ mr (upd (upd mi 2 u.2) 7 x_6) (va_up mf 1 u.1) mg))) [true, true, true, true, true] hw9 rfl (fun hC_ => (rn_V (As := [.int v_31]) (rest := []) E hw9 (t_emit l D cI cJ _ mr (upd (upd mi 2 x_5) 7 x_6) (va_up mf 1 g_7) mg v_31 ⟨hi_7_0, hi_7_1⟩) (gdV q_873 q_875 q_6 q_157 q_876) hdV_X2_emit ⟨rfl, rfl⟩ ⟨(Nat.le_of_ble_eq_true rfl), (Nat.le_of_ble_eq_true rfl)⟩ ⟨(Nat.le_of_ble_eq_true rfl), (Nat.le_of_ble_eq_true rfl)⟩ xT_b xT_at 0 2 rfl rfl rfl _ hC_ (nd_T _ 0) rfl hl10.1 rfl (Nat.le_of_ble_eq_true rfl) dX2_fold_51)) rfl (fun _ => rfl) (fun _ => rfl) (fun u_32 H1 locs hp hw34 => ?_)
            obtain ⟨gcode_35, nsize_36⟩ := u_32
            generalize H1 = H at hw34 ⊢
            have hw37 : WD D A s.heap (WZ_Law cI cJ mr (upd (upd mi 2 nsize_36) 7 x_6) (va_up mf 1 gcode_35) mg) H locs := hw34
            obtain ⟨hp_38, hp_39⟩ := hp
            have hp_38 : 0 ≤ nsize_36.toInt := hp_38
            have hp_39 : nsize_36.toInt ≤ 400 := hp_39
            refine lv_aload_n (pc := 54) E.1 E.2.1 dX2_fold_54 rfl (lv_at hl10 0 rfl) ?_
            refine lv_dup (pc := 55) E.1 E.2.1 dX2_fold_55 rfl ?_
            refine x_get (pc := 56) (T := TX2) (N := 9) (ci := 2) (v := .int x_6) E hw37 inX2 0 6 q_391 rfl rfl (by decide) rfl rfl dX2_fold_56 ?_
            refine lv_iconst (pc := 59) (v := 1) E.1 E.2.1 dX2_fold_59 (by decide +kernel) ?_
            refine lv_isub (pc := 60) E.1 E.2.1 dX2_fold_60 ?_
            refine lv_topi (fun v_40 ev_40 => ?_)
            have hv_40 : v_40.toInt = x_6.toInt - 1 := by rw [ev_40]; exact subE rfl (by decide +kernel) (by omega)
            refine x_put (pc := 61) (T := TX2) (N := 9) (ci := 2) (ws' := (WZ_Law cI cJ mr (upd (upd mi 2 nsize_36) 7 v_40) (va_up mf 1 gcode_35) mg)) E hw37 inX2 tyX2_ok nmX2 0 6 q_391 rfl rfl (by decide) rfl rfl rfl rfl (Nat.le_of_ble_eq_true rfl) rfl dX2_fold_61 (fun H locs hw41 => ?_)
            refine lv_goto (pc := 64) (tgt := 0) E.1 E.2.1 dX2_fold_64 (by decide) ?_
            exact ih_8 nsize_36 v_40 gcode_35 _ _ _ ⟨hp_38, hp_39, (by show 0 ≤ v_40.toInt; omega), (by show v_40.toInt ≤ 64; omega)⟩ (by omega) hw41 (lv_sub hl10 [0, 1] rfl)
  exact loop_4 (Int.toNat ((mi 7).toInt) + 1) (mi 2) (mi 7) (mf 1) _ _ _ ⟨h0.1, h0.2, h1.1, h1.2⟩ (by omega) hw1 (lv_sub hl3 [0, 1] rfl)
set_option maxHeartbeats 4000000 in
set_option maxRecDepth 100000 in
theorem t_endNots (l : Launch) (D : va_G) (cI cJ : ClassId) (sz : Nat) (mr : Nat → Nat) (mi : Nat → Int32) (mf : Nat → Nat → Int32) (mg : Nat → Nat → Int64)  (h0 : 0 ≤ (mi 2).toInt ∧ (mi 2).toInt ≤ 400) (h1 : 0 ≤ (mi 7).toInt ∧ (mi 7).toInt ≤ 64) : Met l yX2_endNots (Cond.code yX2_endNots cX2_endNots 1 none :: GW) ({ frames := 2, cells := 0, slots := 0, locals := 61 } : Room) (va_Pc [.ref (mr 0)] (PW D cI cJ sz (WZ_Law cI cJ mr mi mf mg) xT)) (va_Qv (fun (u : (Nat → Int32) × Int32 × Int32 × Int32) => (0 ≤ u.2.1.toInt) ∧ (u.2.1.toInt ≤ 400) ∧ (0 ≤ u.2.2.1.toInt) ∧ (u.2.2.1.toInt ≤ 64)) (fun u => QW D cI cJ (va_A (WZ_Law cI cJ mr mi mf mg) sz) ((fun (u : (Nat → Int32) × Int32 × Int32 × Int32) => (WZ_Law cI cJ mr (upd (upd (upd mi 2 u.2.1) 7 u.2.2.1) 9 u.2.2.2) (va_up mf 1 u.1) mg)) u)) (va_A (WZ_Law cI cJ mr mi mf mg) sz)) 0 0 (va_A (WZ_Law cI cJ mr mi mf mg) sz) := by
  refine mk_met (y := yX2_endNots) (bytes := cX2_endNots) (maxL := 1) (avs := [.ref (mr 0)]) (WS := (WZ_Law cI cJ mr mi mf mg)) (Qf := fun A => va_Qv (fun (u : (Nat → Int32) × Int32 × Int32 × Int32) => (0 ≤ u.2.1.toInt) ∧ (u.2.1.toInt ≤ 400) ∧ (0 ≤ u.2.2.1.toInt) ∧ (u.2.2.1.toInt ≤ 64)) (fun u => QW D cI cJ A ((fun (u : (Nat → Int32) × Int32 × Int32 × Int32) => (WZ_Law cI cJ mr (upd (upd (upd mi 2 u.2.1) 7 u.2.2.1) 9 u.2.2.2) (va_up mf 1 u.1) mg)) u)) A) (by decide) (Nat.le_of_ble_eq_true rfl) ?_
  intro p e s m below meth c A ls E hr hlk hnm hX hw1 hl2
  have hl3 : lv_has ls 1 [(0, .ref (mr 0))] := hl2
  have loop_4 : ∀ (k : Nat) (x_5 : Int32) (x_6 : Int32) (x_7 : Int32) (g_8 : Nat → Int32) (H : Heap) (locs : List Loc) (ls : Array Slot), (0 ≤ x_5.toInt) ∧ (x_5.toInt ≤ 400) ∧ (0 ≤ x_6.toInt) ∧ (x_6.toInt ≤ 64) → x_6.toInt < (k : Int) → WD D A s.heap (WZ_Law cI cJ mr (upd (upd (upd mi 2 x_5) 7 x_6) 9 x_7) (va_up mf 1 g_8) mg) H locs → lv_has ls 1 [(0, .ref (mr 0))] → W p l e ({ frames := 2, cells := 0, slots := 0, locals := 61 } : Room) s m ([.ref (mr 0)] : List Value).toArray below meth c H locs 0 0 (MQ below (va_Qv (fun (u : (Nat → Int32) × Int32 × Int32 × Int32) => (0 ≤ u.2.1.toInt) ∧ (u.2.1.toInt ≤ 400) ∧ (0 ≤ u.2.2.1.toInt) ∧ (u.2.2.1.toInt ≤ 64)) (fun u => QW D cI cJ A ((fun (u : (Nat → Int32) × Int32 × Int32 × Int32) => (WZ_Law cI cJ mr (upd (upd (upd mi 2 u.2.1) 7 u.2.2.1) 9 u.2.2.2) (va_up mf 1 u.1) mg)) u)) A) ([.ref (mr 0)] : List Value).toArray s 0 0 A) (F0 m 0 ls []) := by
    intro k
    induction k with
    | zero =>
      intro x_5 x_6 x_7 g_8 _ _ _ hinv hm
      obtain ⟨hi_8_0, hi_8_1, hi_8_2, hi_8_3⟩ := hinv
      exact absurd hm (by omega)
    | succ k ih_9 =>
      intro x_5 x_6 x_7 g_8 H locs ls hinv hm hw10 hl11
      obtain ⟨hi_8_0, hi_8_1, hi_8_2, hi_8_3⟩ := hinv
      refine lv_aload_n (pc := 0) E.1 E.2.1 dX2_endNots_0 rfl (lv_at hl11 0 rfl) ?_
      refine x_get (pc := 1) (T := TX2) (N := 9) (ci := 2) (v := .int x_6) E hw10 inX2 0 6 q_391 rfl rfl (by decide) rfl rfl dX2_endNots_1 ?_
      refine lv_if_le (pc := 4) (tgt := 54) E.1 E.2.1 dX2_endNots_4 (by decide) (fun c_12 => ?_) (fun c_12 => ?_)
      · skip
        have hc_12 := leE (a := x_6.toInt) (b := 0) rfl (by decide +kernel) c_12
        exact em_v (w1 := (fun (u : (Nat → Int32) × Int32 × Int32 × Int32) => (WZ_Law cI cJ mr (upd (upd (upd mi 2 u.2.1) 7 u.2.2.1) 9 u.2.2.2) (va_up mf 1 u.1) mg))) E hr hlk (g_8, x_5, x_6, x_7) hw10 ⟨hi_8_0, hi_8_1, hi_8_2, hi_8_3⟩ (Nat.le_of_ble_eq_true rfl) (Nat.le_of_ble_eq_true rfl) dX2_endNots_54
      · skip
        have hc_12 := nleE (a := x_6.toInt) (b := 0) rfl (by decide +kernel) c_12
        refine lv_aload_n (pc := 7) E.1 E.2.1 dX2_endNots_7 rfl (lv_at hl11 0 rfl) ?_
        refine x_get (pc := 8) (T := TX2) (N := 9) (ci := 2) (v := .ref (mr 6)) E hw10 inX2 0 5 q_390 rfl rfl (by decide) rfl rfl dX2_endNots_8 ?_
        refine lv_aload_n (pc := 11) E.1 E.2.1 dX2_endNots_11 rfl (lv_at hl11 0 rfl) ?_
        refine x_get (pc := 12) (T := TX2) (N := 9) (ci := 2) (v := .int x_6) E hw10 inX2 0 6 q_391 rfl rfl (by decide) rfl rfl dX2_endNots_12 ?_
        refine lv_iconst (pc := 15) (v := 1) E.1 E.2.1 dX2_endNots_15 (by decide +kernel) ?_
        refine lv_isub (pc := 16) E.1 E.2.1 dX2_endNots_16 ?_
        refine lv_topi (fun v_13 ev_13 => ?_)
        have hv_13 : v_13.toInt = x_6.toInt - 1 := by rw [ev_13]; exact subE rfl (by decide +kernel) (by omega)
        refine x_iald (pc := 17) (f := (mf 6)) E hw10 4 rfl (inbE (a := v_13.toInt) rfl (by omega)) dX2_endNots_17 ?_
        refine lv_topi (fun v_14 ev_14 => ?_)
        refine lv_sipush (pc := 18) (v := 260) E.1 E.2.1 dX2_endNots_18 (by decide +kernel) ?_
        refine lv_icmp_ne (pc := 21) (tgt := 54) E.1 E.2.1 dX2_endNots_21 (by decide) (fun c_15 => ?_) (fun c_15 => ?_)
        · skip
          have hc_15 := neE (a := v_14.toInt) (b := 260) rfl (by decide +kernel) c_15
          exact em_v (w1 := (fun (u : (Nat → Int32) × Int32 × Int32 × Int32) => (WZ_Law cI cJ mr (upd (upd (upd mi 2 u.2.1) 7 u.2.2.1) 9 u.2.2.2) (va_up mf 1 u.1) mg))) E hr hlk (g_8, x_5, x_6, x_7) hw10 ⟨hi_8_0, hi_8_1, hi_8_2, hi_8_3⟩ (Nat.le_of_ble_eq_true rfl) (Nat.le_of_ble_eq_true rfl) dX2_endNots_54
        · skip
          have hc_15 := eqE (a := v_14.toInt) (b := 260) rfl (by decide +kernel) c_15
          refine lv_aload_n (pc := 24) E.1 E.2.1 dX2_endNots_24 rfl (lv_at hl11 0 rfl) ?_
          refine lv_sipush (pc := 25) (v := 260) E.1 E.2.1 dX2_endNots_25 (by decide +kernel) ?_
          refine ck_v (pc := 28) (ws' := (fun (u : (Nat → Int32) × Int32) => (WZ_Law cI cJ mr (upd (upd (upd mi 2 u.2) 7 x_6) 9 x_7) (va_up mf 1 u.1) mg))) [true, true, true, true, true] hw10 rfl (fun hC_ => (rn_V (As := [.int 260]) (rest := []) E hw10 (t_emit l D cI cJ _ mr (upd (upd (upd mi 2 x_5) 7 x_6) 9 x_7) (va_up mf 1 g_8) mg 260 ⟨hi_8_0, hi_8_1⟩) (gdV q_873 q_875 q_6 q_157 q_876) hdV_X2_emit ⟨rfl, rfl⟩ ⟨(Nat.le_of_ble_eq_true rfl), (Nat.le_of_ble_eq_true rfl)⟩ ⟨(Nat.le_of_ble_eq_true rfl), (Nat.le_of_ble_eq_true rfl)⟩ xT_b xT_at 0 2 rfl rfl rfl _ hC_ (nd_T _ 0) rfl hl11.1 rfl (Nat.le_of_ble_eq_true rfl) dX2_endNots_28)) rfl (fun _ => rfl) (fun _ => rfl) (fun u_16 H1 locs hp hw18 => ?_)
          obtain ⟨gcode_19, nsize_20⟩ := u_16
          generalize H1 = H at hw18 ⊢
          have hw21 : WD D A s.heap (WZ_Law cI cJ mr (upd (upd (upd mi 2 nsize_20) 7 x_6) 9 x_7) (va_up mf 1 gcode_19) mg) H locs := hw18
          obtain ⟨hp_22, hp_23⟩ := hp
          have hp_22 : 0 ≤ nsize_20.toInt := hp_22
          have hp_23 : nsize_20.toInt ≤ 400 := hp_23
          refine lv_aload_n (pc := 31) E.1 E.2.1 dX2_endNots_31 rfl (lv_at hl11 0 rfl) ?_
          refine lv_dup (pc := 32) E.1 E.2.1 dX2_endNots_32 rfl ?_
          refine x_get (pc := 33) (T := TX2) (N := 9) (ci := 2) (v := .int x_6) E hw21 inX2 0 6 q_391 rfl rfl (by decide) rfl rfl dX2_endNots_33 ?_
          refine lv_iconst (pc := 36) (v := 1) E.1 E.2.1 dX2_endNots_36 (by decide +kernel) ?_
          refine lv_isub (pc := 37) E.1 E.2.1 dX2_endNots_37 ?_
          refine lv_topi (fun v_24 ev_24 => ?_)
          have hv_24 : v_24.toInt = x_6.toInt - 1 := by rw [ev_24]; exact subE rfl (by decide +kernel) (by omega)
          refine x_put (pc := 38) (T := TX2) (N := 9) (ci := 2) (ws' := (WZ_Law cI cJ mr (upd (upd (upd mi 2 nsize_20) 7 v_24) 9 x_7) (va_up mf 1 gcode_19) mg)) E hw21 inX2 tyX2_ok nmX2 0 6 q_391 rfl rfl (by decide) rfl rfl rfl rfl (Nat.le_of_ble_eq_true rfl) rfl dX2_endNots_38 (fun H locs hw25 => ?_)
          refine lv_aload_n (pc := 41) E.1 E.2.1 dX2_endNots_41 rfl (lv_at hl11 0 rfl) ?_
          refine lv_dup (pc := 42) E.1 E.2.1 dX2_endNots_42 rfl ?_
          refine x_get (pc := 43) (T := TX2) (N := 9) (ci := 2) (v := .int x_7) E hw25 inX2 0 8 q_393 rfl rfl (by decide) rfl rfl dX2_endNots_43 ?_
          refine lv_iconst (pc := 46) (v := 1) E.1 E.2.1 dX2_endNots_46 (by decide +kernel) ?_
          refine lv_isub (pc := 47) E.1 E.2.1 dX2_endNots_47 ?_
          refine lv_topi (fun v_26 ev_26 => ?_)
          refine x_put (pc := 48) (T := TX2) (N := 9) (ci := 2) (ws' := (WZ_Law cI cJ mr (upd (upd (upd mi 2 nsize_20) 7 v_24) 9 v_26) (va_up mf 1 gcode_19) mg)) E hw25 inX2 tyX2_ok nmX2 0 8 q_393 rfl rfl (by decide) rfl rfl rfl rfl (Nat.le_of_ble_eq_true rfl) rfl dX2_endNots_48 (fun H locs hw27 => ?_)
          refine lv_goto (pc := 51) (tgt := 0) E.1 E.2.1 dX2_endNots_51 (by decide) ?_
          exact ih_9 nsize_20 v_24 v_26 gcode_19 _ _ _ ⟨hp_22, hp_23, (by show 0 ≤ v_24.toInt; omega), (by show v_24.toInt ≤ 64; omega)⟩ (by omega) hw27 (lv_sub hl11 [0] rfl)
  exact loop_4 (Int.toNat ((mi 7).toInt) + 1) (mi 2) (mi 7) (mi 9) (mf 1) _ _ _ ⟨h0.1, h0.2, h1.1, h1.2⟩ (by omega) hw1 (lv_sub hl3 [0] rfl)
set_option maxHeartbeats 4000000 in
set_option maxRecDepth 100000 in
theorem t_roundTake (l : Launch) (D : va_G) (cI cJ : ClassId) (sz : Nat) (mr : Nat → Nat) (mi : Nat → Int32) (mf : Nat → Nat → Int32) (mg : Nat → Nat → Int64)   : Met l yX7_take (Cond.code yX7_take cX7_take 2 none :: GW) ({ frames := 1, cells := 0, slots := 0, locals := 60 } : Room) (va_Pc [.ref (mr 0), .ref (mr 6)] (PW D cI cJ sz (WZ_Round2 cI cJ mr mi mf mg) xT)) (va_Qv (fun (u : (Nat → Int32) × Int32) => (u.2.toInt = (mi 8).toInt)) (fun u => QW D cI cJ (va_A (WZ_Round2 cI cJ mr mi mf mg) sz) ((fun (u : (Nat → Int32) × Int32) => (WZ_Round2 cI cJ mr (upd mi 2 u.2) (va_up mf 1 u.1) mg)) u)) (va_A (WZ_Round2 cI cJ mr mi mf mg) sz)) 0 0 (va_A (WZ_Round2 cI cJ mr mi mf mg) sz) := by
  refine mk_met (y := yX7_take) (bytes := cX7_take) (maxL := 2) (avs := [.ref (mr 0), .ref (mr 6)]) (WS := (WZ_Round2 cI cJ mr mi mf mg)) (Qf := fun A => va_Qv (fun (u : (Nat → Int32) × Int32) => (u.2.toInt = (mi 8).toInt)) (fun u => QW D cI cJ A ((fun (u : (Nat → Int32) × Int32) => (WZ_Round2 cI cJ mr (upd mi 2 u.2) (va_up mf 1 u.1) mg)) u)) A) (by decide) (Nat.le_of_ble_eq_true rfl) ?_
  intro p e s m below meth c A ls E hr hlk hnm hX hw1 hl2
  have hl3 : lv_has ls 2 [(0, .ref (mr 0)), (1, .ref (mr 6))] := hl2
  refine lv_aload_n (pc := 0) E.1 E.2.1 dX7_take_0 rfl (lv_at hl3 1 rfl) ?_
  refine x_get (pc := 1) (T := TX7) (N := 5) (ci := 7) (v := .ref (mr 7)) E hw1 inX7 4 0 q_419 rfl rfl (by decide) rfl rfl dX7_take_1 ?_
  refine lv_iconst (pc := 4) (v := 0) E.1 E.2.1 dX7_take_4 (by decide +kernel) ?_
  refine lv_aload_n (pc := 5) E.1 E.2.1 dX7_take_5 rfl (lv_at hl3 0 rfl) ?_
  refine x_get (pc := 6) (T := TX7) (N := 5) (ci := 7) (v := .ref (mr 1)) E hw1 inX7 0 0 q_419 rfl rfl (by decide) rfl rfl dX7_take_6 ?_
  refine lv_iconst (pc := 9) (v := 0) E.1 E.2.1 dX7_take_9 (by decide +kernel) ?_
  refine lv_sipush (pc := 10) (v := 200) E.1 E.2.1 dX7_take_10 (by decide +kernel) ?_
  refine x_copyG (pc := 13) (N := 200) (wf := fun g => (WZ_Round2 cI cJ mr mi (va_up mf 1 g) mg)) E hw1 hl3.1 q_986 q_967 q_966 q_169 5 1 rfl rfl (by decide +kernel) (by decide +kernel) (Nat.le_of_ble_eq_true rfl) (Nat.le_of_ble_eq_true rfl) (fun _ => rfl) (Nat.le_of_ble_eq_true rfl) (Nat.le_of_ble_eq_true rfl) dX7_take_13 (fun g_4 H locs eg_4 hw5 => ?_)
  refine lv_aload_n (pc := 16) E.1 E.2.1 dX7_take_16 rfl (lv_at hl3 0 rfl) ?_
  refine lv_aload_n (pc := 17) E.1 E.2.1 dX7_take_17 rfl (lv_at hl3 1 rfl) ?_
  refine x_get (pc := 18) (T := TX7) (N := 5) (ci := 7) (v := .int (mi 8)) E hw5 inX7 4 1 q_421 rfl rfl (by decide) rfl rfl dX7_take_18 ?_
  refine x_put (pc := 21) (T := TX7) (N := 5) (ci := 7) (ws' := (WZ_Round2 cI cJ mr (upd mi 2 (mi 8)) (va_up mf 1 g_4) mg)) E hw5 inX7 tyX7_ok nmX7 0 1 q_421 rfl rfl (by decide) rfl rfl rfl rfl (Nat.le_of_ble_eq_true rfl) rfl dX7_take_21 (fun H locs hw6 => ?_)
  exact em_v (w1 := (fun (u : (Nat → Int32) × Int32) => (WZ_Round2 cI cJ mr (upd mi 2 u.2) (va_up mf 1 u.1) mg))) E hr hlk (g_4, (mi 8)) hw6 rfl (Nat.le_of_ble_eq_true rfl) (Nat.le_of_ble_eq_true rfl) dX7_take_24
