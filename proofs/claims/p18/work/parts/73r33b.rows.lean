set_option maxHeartbeats 4000000 in
set_option maxRecDepth 100000 in
theorem s_wordAt2 (l : Launch) (D : va_G) (cI cJ : ClassId) (sz M : Nat) (mr : Nat → Nat) (mi : Nat → Int32) (mf : Nat → Nat → Int32) (mg : Nat → Nat → Int64) (z_a : Int32) (z_b : Int32) (h0 : 0 ≤ z_a.toInt) (h1 : z_a.toInt ≤ z_b.toInt) (h2 : z_b.toInt ≤ 400) (h3 : ((mf 26) 153).toInt = 32) (lf_words : (∀ j : Nat, j < 154 → (mf 26) j = w0 j)) (x_let : LT (mf 20) (z_a).toInt (z_b).toInt) : Met l yX12_wordAt (Cond.code yX12_wordAt cX12_wordAt 6 (some .int) :: GW) ({ frames := 1, cells := 0, slots := 0, locals := 40 } : Room) (va_Pc [.ref M, .int z_a, .int z_b] (PW D cI cJ sz (MW cI cJ M mr mi mf mg) xT)) (va_Qi (fun (r : Int32) (u : Unit) => (W30 (r : Int32).toInt (z_a).toInt (z_b).toInt)) (fun u => QW D cI cJ (va_A (MW cI cJ M mr mi mf mg) sz) ((fun (u : Unit) => (MW cI cJ M mr mi mf mg)) u)) (va_A (MW cI cJ M mr mi mf mg) sz)) 0 0 (va_A (MW cI cJ M mr mi mf mg) sz) := by
  refine mk_met (y := yX12_wordAt) (bytes := cX12_wordAt) (maxL := 6) (avs := [.ref M, .int z_a, .int z_b]) (WS := (MW cI cJ M mr mi mf mg)) (Qf := fun A => va_Qi (fun (r : Int32) (u : Unit) => (W30 (r : Int32).toInt (z_a).toInt (z_b).toInt)) (fun u => QW D cI cJ A ((fun (u : Unit) => (MW cI cJ M mr mi mf mg)) u)) A) (by decide) (Nat.le_of_ble_eq_true rfl) ?_
  intro p e s m below meth c A ls E hr hlk hnm hX hw1 hl2
  have hl3 : lv_has ls 6 [(0, .ref M), (1, .int z_a), (2, .int z_b)] := hl2
  refine lv_iconst (pc := 0) (v := (-1)) E.1 E.2.1 dX12_wordAt_0 (by decide +kernel) ?_
  refine lv_istore_n (pc := 1) (lv' := [(3, .int (-1)), (0, .ref M), (1, .int z_a), (2, .int z_b)]) E.1 E.2.1 dX12_wordAt_1 rfl hl3 (by decide) rfl (fun ls hl4 => ?_)
  refine lv_iconst (pc := 2) (v := 0) E.1 E.2.1 dX12_wordAt_2 (by decide +kernel) ?_
  refine lv_istore (pc := 3) (lv' := [(4, .int 0), (3, .int (-1)), (0, .ref M), (1, .int z_a), (2, .int z_b)]) E.1 E.2.1 dX12_wordAt_3 hl4 (by decide) rfl (fun ls hl5 => ?_)
  have loop_6 : ∀ (k : Nat) (x_7 : Int32) (x_8 : Int32) (H : Heap) (locs : List Loc) (ls : Array Slot), (0 ≤ x_7.toInt ∧ x_7.toInt ≤ 153) ∧ ((-1) ≤ x_8.toInt) ∧ (x_8.toInt + 1 ≤ x_7.toInt) ∧ (x_8.toInt + 1 = (spc x_7.toNatClampNeg : Int) ∧ w0 x_7.toNatClampNeg = 32) → 153 - x_7.toInt < (k : Int) → WD D A s.heap (MW cI cJ M mr mi mf mg) H locs → lv_has ls 6 [(4, .int x_7), (3, .int x_8), (0, .ref M), (1, .int z_a), (2, .int z_b)] → W p l e ({ frames := 1, cells := 0, slots := 0, locals := 40 } : Room) s m ([.ref M, .int z_a, .int z_b] : List Value).toArray below meth c H locs 0 0 (MQ below (va_Qi (fun (r : Int32) (u : Unit) => (W30 (r : Int32).toInt (z_a).toInt (z_b).toInt)) (fun u => QW D cI cJ A ((fun (u : Unit) => (MW cI cJ M mr mi mf mg)) u)) A) ([.ref M, .int z_a, .int z_b] : List Value).toArray s 0 0 A) (F0 m 5 ls []) := by
    intro k
    induction k with
    | zero =>
      intro x_7 x_8 _ _ _ hinv hm
      obtain ⟨hi_8_0, hi_8_1, hi_8_2, hi_8_3⟩ := hinv
      exact absurd hm (by omega)
    | succ k ih_9 =>
      intro x_7 x_8 H locs ls hinv hm hw10 hl11
      obtain ⟨hi_8_0, hi_8_1, hi_8_2, hi_8_3⟩ := hinv
      refine lv_iload (pc := 5) E.1 E.2.1 dX12_wordAt_5 (lv_at hl11 0 rfl) ?_
      refine lv_sipush (pc := 7) (v := 153) E.1 E.2.1 dX12_wordAt_7 (by decide +kernel) ?_
      refine lv_icmp_ge (pc := 10) (tgt := 118) E.1 E.2.1 dX12_wordAt_10 (by decide) (fun c_12 => ?_) (fun c_12 => ?_)
      · skip
        have hc_12 := leE (a := 153) (b := x_7.toInt) (by decide +kernel) rfl c_12
        refine lv_iconst (pc := 118) (v := (-1)) E.1 E.2.1 dX12_wordAt_118 (by decide +kernel) ?_
        exact em_i (w1 := (fun (u : Unit) => (MW cI cJ M mr mi mf mg))) E hr hlk () hw10 (show W30 ((-1) : Int32).toInt (z_a).toInt (z_b).toInt from (fun h => absurd h (by decide +kernel))) (Nat.le_of_ble_eq_true rfl) (Nat.le_of_ble_eq_true rfl) dX12_wordAt_119
      · skip
        have hc_12 := nleE (a := 153) (b := x_7.toInt) (by decide +kernel) rfl c_12
        refine lv_iconst (pc := 13) (v := 0) E.1 E.2.1 dX12_wordAt_13 (by decide +kernel) ?_
        refine lv_istore (pc := 14) (lv' := [(5, .int 0), (4, .int x_7), (3, .int x_8), (0, .ref M), (1, .int z_a), (2, .int z_b)]) E.1 E.2.1 dX12_wordAt_14 hl11 (by decide) rfl (fun ls hl13 => ?_)
        refine lv_iload_n (pc := 16) E.1 E.2.1 dX12_wordAt_16 rfl (lv_at hl13 2 rfl) ?_
        refine lv_iconst (pc := 17) (v := 1) E.1 E.2.1 dX12_wordAt_17 (by decide +kernel) ?_
        refine lv_iadd (pc := 18) E.1 E.2.1 dX12_wordAt_18 ?_
        refine lv_topi (fun v_14 ev_14 => ?_)
        have hv_14 : v_14.toInt = x_8.toInt + 1 := by rw [ev_14]; exact addE rfl (by decide +kernel) (by omega)
        refine lv_istore_n (pc := 19) (lv' := [(3, .int v_14), (5, .int 0), (4, .int x_7), (0, .ref M), (1, .int z_a), (2, .int z_b)]) E.1 E.2.1 dX12_wordAt_19 rfl hl13 (by decide) rfl (fun ls hl15 => ?_)
        have loop_16 : ∀ (k : Nat) (x_17 : Int32) (H : Heap) (locs : List Loc) (ls : Array Slot), (0 ≤ x_17.toInt) ∧ (z_a.toInt + x_17.toInt ≤ z_b.toInt) ∧ (x_7.toInt + 1 + x_17.toInt ≤ 153) → 400 - x_17.toInt < (k : Int) → WD D A s.heap (MW cI cJ M mr mi mf mg) H locs → lv_has ls 6 [(3, .int v_14), (5, .int x_17), (4, .int x_7), (0, .ref M), (1, .int z_a), (2, .int z_b)] → W p l e ({ frames := 1, cells := 0, slots := 0, locals := 40 } : Room) s m ([.ref M, .int z_a, .int z_b] : List Value).toArray below meth c H locs 0 0 (MQ below (va_Qi (fun (r : Int32) (u : Unit) => (W30 (r : Int32).toInt (z_a).toInt (z_b).toInt)) (fun u => QW D cI cJ A ((fun (u : Unit) => (MW cI cJ M mr mi mf mg)) u)) A) ([.ref M, .int z_a, .int z_b] : List Value).toArray s 0 0 A) (F0 m 20 ls []) := by
          intro k
          induction k with
          | zero =>
            intro x_17 _ _ _ hinv hm
            obtain ⟨hi_17_0, hi_17_1, hi_17_2⟩ := hinv
            exact absurd hm (by omega)
          | succ k ih_18 =>
            intro x_17 H locs ls hinv hm hw19 hl20
            obtain ⟨hi_17_0, hi_17_1, hi_17_2⟩ := hinv
            refine lv_iload_n (pc := 20) E.1 E.2.1 dX12_wordAt_20 rfl (lv_at hl20 4 rfl) ?_
            refine lv_iload (pc := 21) E.1 E.2.1 dX12_wordAt_21 (lv_at hl20 1 rfl) ?_
            refine lv_iadd (pc := 23) E.1 E.2.1 dX12_wordAt_23 ?_
            refine lv_topi (fun v_21 ev_21 => ?_)
            have hv_21 : v_21.toInt = z_a.toInt + x_17.toInt := by rw [ev_21]; exact addE rfl rfl (by omega)
            refine lv_iload_n (pc := 24) E.1 E.2.1 dX12_wordAt_24 rfl (lv_at hl20 5 rfl) ?_
            refine lv_icmp_ge (pc := 25) (tgt := 61) E.1 E.2.1 dX12_wordAt_25 (by decide) (fun c_22 => ?_) (fun c_22 => ?_)
            · skip
              have hc_22 := leE (a := z_b.toInt) (b := v_21.toInt) rfl rfl c_22
              refine lv_iload_n (pc := 61) E.1 E.2.1 dX12_wordAt_61 rfl (lv_at hl20 4 rfl) ?_
              refine lv_iload (pc := 62) E.1 E.2.1 dX12_wordAt_62 (lv_at hl20 1 rfl) ?_
              refine lv_iadd (pc := 64) E.1 E.2.1 dX12_wordAt_64 ?_
              refine lv_topi (fun v_23 ev_23 => ?_)
              have hv_23 : v_23.toInt = z_a.toInt + x_17.toInt := by rw [ev_23]; exact addE rfl rfl (by omega)
              refine lv_iload_n (pc := 65) E.1 E.2.1 dX12_wordAt_65 rfl (lv_at hl20 5 rfl) ?_
              refine lv_icmp_ne (pc := 66) (tgt := 88) E.1 E.2.1 dX12_wordAt_66 (by decide) (fun c_24 => absurd (meqE (a := v_23.toInt) (b := z_b.toInt) rfl rfl (by omega)) c_24) (fun _ => ?_)
              refine lv_aload_n (pc := 69) E.1 E.2.1 dX12_wordAt_69 rfl (lv_at hl20 3 rfl) ?_
              refine x_get (pc := 70) (T := TX12) (N := 70) (ci := 12) (v := .ref (mr 26)) E hw19 inX12 0 26 q_1425 rfl rfl (by decide) rfl rfl dX12_wordAt_70 ?_
              refine lv_iload (pc := 73) E.1 E.2.1 dX12_wordAt_73 (lv_at hl20 2 rfl) ?_
              refine lv_iconst (pc := 75) (v := 1) E.1 E.2.1 dX12_wordAt_75 (by decide +kernel) ?_
              refine lv_iadd (pc := 76) E.1 E.2.1 dX12_wordAt_76 ?_
              refine lv_topi (fun v_25 ev_25 => ?_)
              have hv_25 : v_25.toInt = x_7.toInt + 1 := by rw [ev_25]; exact addE rfl (by decide +kernel) (by omega)
              refine lv_iload (pc := 77) E.1 E.2.1 dX12_wordAt_77 (lv_at hl20 1 rfl) ?_
              refine lv_iadd (pc := 79) E.1 E.2.1 dX12_wordAt_79 ?_
              refine lv_topi (fun v_26 ev_26 => ?_)
              have hv_26 : v_26.toInt = v_25.toInt + x_17.toInt := by rw [ev_26]; exact addE rfl rfl (by omega)
              refine x_iald (pc := 80) (f := (mf 26)) E hw19 13 rfl (inbE (a := v_26.toInt) rfl (by omega)) dX12_wordAt_80 ?_
              refine lv_topi (fun v_27 ev_27 => ?_)
              refine lv_bipush (pc := 81) (v := 32) E.1 E.2.1 dX12_wordAt_81 (by decide +kernel) ?_
              refine lv_icmp_ne (pc := 83) (tgt := 88) E.1 E.2.1 dX12_wordAt_83 (by decide) (fun c_28 => ?_) (fun c_28 => ?_)
              · skip
                have hc_28 := neE (a := v_27.toInt) (b := 32) rfl (by decide +kernel) c_28
                refine lv_iload (pc := 88) E.1 E.2.1 dX12_wordAt_88 (lv_at hl20 2 rfl) ?_
                refine lv_iconst (pc := 90) (v := 1) E.1 E.2.1 dX12_wordAt_90 (by decide +kernel) ?_
                refine lv_iadd (pc := 91) E.1 E.2.1 dX12_wordAt_91 ?_
                refine lv_topi (fun v_29 ev_29 => ?_)
                have hv_29 : v_29.toInt = x_7.toInt + 1 := by rw [ev_29]; exact addE rfl (by decide +kernel) (by omega)
                refine lv_istore (pc := 92) (lv' := [(4, .int v_29), (3, .int v_14), (5, .int x_17), (0, .ref M), (1, .int z_a), (2, .int z_b)]) E.1 E.2.1 dX12_wordAt_92 hl20 (by decide) rfl (fun ls hl30 => ?_)
                have loop_31 : ∀ (k : Nat) (x_32 : Int32) (H : Heap) (locs : List Loc) (ls : Array Slot), (x_7.toInt + 1 ≤ x_32.toInt) ∧ (x_32.toInt ≤ 153) ∧ (v_14.toInt + 1 = (spc x_32.toNatClampNeg : Int)) → 153 - x_32.toInt < (k : Int) → WD D A s.heap (MW cI cJ M mr mi mf mg) H locs → lv_has ls 6 [(4, .int x_32), (3, .int v_14), (0, .ref M), (1, .int z_a), (2, .int z_b)] → W p l e ({ frames := 1, cells := 0, slots := 0, locals := 40 } : Room) s m ([.ref M, .int z_a, .int z_b] : List Value).toArray below meth c H locs 0 0 (MQ below (va_Qi (fun (r : Int32) (u : Unit) => (W30 (r : Int32).toInt (z_a).toInt (z_b).toInt)) (fun u => QW D cI cJ A ((fun (u : Unit) => (MW cI cJ M mr mi mf mg)) u)) A) ([.ref M, .int z_a, .int z_b] : List Value).toArray s 0 0 A) (F0 m 94 ls []) := by
                  intro k
                  induction k with
                  | zero =>
                    intro x_32 _ _ _ hinv hm
                    obtain ⟨hi_32_0, hi_32_1, hi_32_2⟩ := hinv
                    exact absurd hm (by omega)
                  | succ k ih_33 =>
                    intro x_32 H locs ls hinv hm hw34 hl35
                    obtain ⟨hi_32_0, hi_32_1, hi_32_2⟩ := hinv
                    refine lv_aload_n (pc := 94) E.1 E.2.1 dX12_wordAt_94 rfl (lv_at hl35 2 rfl) ?_
                    refine x_get (pc := 95) (T := TX12) (N := 70) (ci := 12) (v := .ref (mr 26)) E hw34 inX12 0 26 q_1425 rfl rfl (by decide) rfl rfl dX12_wordAt_95 ?_
                    refine lv_iload (pc := 98) E.1 E.2.1 dX12_wordAt_98 (lv_at hl35 0 rfl) ?_
                    refine x_iald (pc := 100) (f := (mf 26)) E hw34 13 rfl (inbE (a := x_32.toInt) rfl (by omega)) dX12_wordAt_100 ?_
                    refine lv_topi (fun v_36 ev_36 => ?_)
                    refine lv_bipush (pc := 101) (v := 32) E.1 E.2.1 dX12_wordAt_101 (by decide +kernel) ?_
                    refine lv_icmp_eq (pc := 103) (tgt := 115) E.1 E.2.1 dX12_wordAt_103 (by decide) (fun c_37 => ?_) (fun c_37 => ?_)
                    · skip
                      have hc_37 := eqE (a := v_36.toInt) (b := 32) rfl (by decide +kernel) c_37
                      refine lv_goto (pc := 115) (tgt := 5) E.1 E.2.1 dX12_wordAt_115 (by decide) ?_
                      exact ih_9 x_32 v_14 _ _ _ ⟨(by show 0 ≤ x_32.toInt ∧ x_32.toInt ≤ 153; omega), (by show (-1) ≤ v_14.toInt; omega), (by show v_14.toInt + 1 ≤ x_32.toInt; omega), ⟨hi_32_2, (wd_is lf_words ev_36 (by omega)).1 (by omega)⟩⟩ (by omega) hw34 (lv_sub hl35 [0, 1, 2, 3, 4] rfl)
                    · skip
                      have hc_37 := neE (a := v_36.toInt) (b := 32) rfl (by decide +kernel) c_37
                      have hz37 := wd_stop2 ev_36 (by omega) (by omega)
                      refine lv_iload (pc := 106) E.1 E.2.1 dX12_wordAt_106 (lv_at hl35 0 rfl) ?_
                      refine lv_iconst (pc := 108) (v := 1) E.1 E.2.1 dX12_wordAt_108 (by decide +kernel) ?_
                      refine lv_iadd (pc := 109) E.1 E.2.1 dX12_wordAt_109 ?_
                      refine lv_topi (fun v_38 ev_38 => ?_)
                      have hv_38 : v_38.toInt = x_32.toInt + 1 := by rw [ev_38]; exact addE rfl (by decide +kernel) (by omega)
                      refine lv_istore (pc := 110) (lv' := [(4, .int v_38), (3, .int v_14), (0, .ref M), (1, .int z_a), (2, .int z_b)]) E.1 E.2.1 dX12_wordAt_110 hl35 (by decide) rfl (fun ls hl39 => ?_)
                      refine lv_goto (pc := 112) (tgt := 94) E.1 E.2.1 dX12_wordAt_112 (by decide) ?_
                      exact ih_33 v_38 _ _ _ ⟨(by show x_7.toInt + 1 ≤ v_38.toInt; omega), (by show v_38.toInt ≤ 153; omega), (sp_same hi_32_2 ((wd_is lf_words ev_36 (by omega)).2 (by omega)) (by omega) (by omega))⟩ (by omega) hw34 (lv_sub hl39 [0, 1, 2, 3, 4] rfl)
                exact loop_31 (Int.toNat (153 - v_29.toInt) + 1) v_29 _ _ _ ⟨(by show x_7.toInt + 1 ≤ v_29.toInt; omega), (by show v_29.toInt ≤ 153; omega), (sp_next hi_8_3.1 hi_8_3.2 (by omega) (by omega) (by omega))⟩ (by omega) hw19 (lv_sub hl30 [0, 1, 3, 4, 5] rfl)
              · skip
                have hc_28 := eqE (a := v_27.toInt) (b := 32) rfl (by decide +kernel) c_28
                refine lv_iload_n (pc := 86) E.1 E.2.1 dX12_wordAt_86 rfl (lv_at hl20 0 rfl) ?_
                exact em_i (w1 := (fun (u : Unit) => (MW cI cJ M mr mi mf mg))) E hr hlk () hw19 (show W30 (v_14 : Int32).toInt (z_a).toInt (z_b).toInt from (fun h30 => by have q := wd_30 lf_words (k := x_7) (n := v_14.toInt) (i := x_17.toInt) (by omega) (by have q2 := hi_8_3.1; omega) hi_8_3.2 ev_27 (by omega) (by omega) (by omega) (by omega) (by omega); omega)) (Nat.le_of_ble_eq_true rfl) (Nat.le_of_ble_eq_true rfl) dX12_wordAt_87
            · skip
              have hc_22 := nleE (a := z_b.toInt) (b := v_21.toInt) rfl rfl c_22
              refine lv_aload_n (pc := 28) E.1 E.2.1 dX12_wordAt_28 rfl (lv_at hl20 3 rfl) ?_
              refine x_get (pc := 29) (T := TX12) (N := 70) (ci := 12) (v := .ref (mr 26)) E hw19 inX12 0 26 q_1425 rfl rfl (by decide) rfl rfl dX12_wordAt_29 ?_
              refine lv_iload (pc := 32) E.1 E.2.1 dX12_wordAt_32 (lv_at hl20 2 rfl) ?_
              refine lv_iconst (pc := 34) (v := 1) E.1 E.2.1 dX12_wordAt_34 (by decide +kernel) ?_
              refine lv_iadd (pc := 35) E.1 E.2.1 dX12_wordAt_35 ?_
              refine lv_topi (fun v_40 ev_40 => ?_)
              have hv_40 : v_40.toInt = x_7.toInt + 1 := by rw [ev_40]; exact addE rfl (by decide +kernel) (by omega)
              refine lv_iload (pc := 36) E.1 E.2.1 dX12_wordAt_36 (lv_at hl20 1 rfl) ?_
              refine lv_iadd (pc := 38) E.1 E.2.1 dX12_wordAt_38 ?_
              refine lv_topi (fun v_41 ev_41 => ?_)
              have hv_41 : v_41.toInt = v_40.toInt + x_17.toInt := by rw [ev_41]; exact addE rfl rfl (by omega)
              refine x_iald (pc := 39) (f := (mf 26)) E hw19 13 rfl (inbE (a := v_41.toInt) rfl (by omega)) dX12_wordAt_39 ?_
              refine lv_topi (fun v_42 ev_42 => ?_)
              refine lv_aload_n (pc := 40) E.1 E.2.1 dX12_wordAt_40 rfl (lv_at hl20 3 rfl) ?_
              refine x_get (pc := 41) (T := TX12) (N := 70) (ci := 12) (v := .ref (mr 20)) E hw19 inX12 0 20 q_1419 rfl rfl (by decide) rfl rfl dX12_wordAt_41 ?_
              refine lv_iload_n (pc := 44) E.1 E.2.1 dX12_wordAt_44 rfl (lv_at hl20 4 rfl) ?_
              refine lv_iload (pc := 45) E.1 E.2.1 dX12_wordAt_45 (lv_at hl20 1 rfl) ?_
              refine lv_iadd (pc := 47) E.1 E.2.1 dX12_wordAt_47 ?_
              refine lv_topi (fun v_43 ev_43 => ?_)
              have hv_43 : v_43.toInt = z_a.toInt + x_17.toInt := by rw [ev_43]; exact addE rfl rfl (by omega)
              refine x_iald (pc := 48) (f := (mf 20)) E hw19 12 rfl (inbE (a := v_43.toInt) rfl (by omega)) dX12_wordAt_48 ?_
              refine lv_topi (fun v_44 ev_44 => ?_)
              refine lv_icmp_ne (pc := 49) (tgt := 61) E.1 E.2.1 dX12_wordAt_49 (by decide) (fun c_45 => ?_) (fun c_45 => ?_)
              · skip
                have hc_45 := neE (a := v_42.toInt) (b := v_44.toInt) rfl rfl c_45
                refine lv_iload_n (pc := 61) E.1 E.2.1 dX12_wordAt_61 rfl (lv_at hl20 4 rfl) ?_
                refine lv_iload (pc := 62) E.1 E.2.1 dX12_wordAt_62 (lv_at hl20 1 rfl) ?_
                refine lv_iadd (pc := 64) E.1 E.2.1 dX12_wordAt_64 ?_
                refine lv_topi (fun v_46 ev_46 => ?_)
                have hv_46 : v_46.toInt = z_a.toInt + x_17.toInt := by rw [ev_46]; exact addE rfl rfl (by omega)
                refine lv_iload_n (pc := 65) E.1 E.2.1 dX12_wordAt_65 rfl (lv_at hl20 5 rfl) ?_
                refine lv_icmp_ne (pc := 66) (tgt := 88) E.1 E.2.1 dX12_wordAt_66 (by decide) (fun _ => ?_) (fun c_47 => absurd c_47 (mneE (a := v_46.toInt) (b := z_b.toInt) rfl rfl (by omega)))
                refine lv_iload (pc := 88) E.1 E.2.1 dX12_wordAt_88 (lv_at hl20 2 rfl) ?_
                refine lv_iconst (pc := 90) (v := 1) E.1 E.2.1 dX12_wordAt_90 (by decide +kernel) ?_
                refine lv_iadd (pc := 91) E.1 E.2.1 dX12_wordAt_91 ?_
                refine lv_topi (fun v_48 ev_48 => ?_)
                have hv_48 : v_48.toInt = x_7.toInt + 1 := by rw [ev_48]; exact addE rfl (by decide +kernel) (by omega)
                refine lv_istore (pc := 92) (lv' := [(4, .int v_48), (3, .int v_14), (5, .int x_17), (0, .ref M), (1, .int z_a), (2, .int z_b)]) E.1 E.2.1 dX12_wordAt_92 hl20 (by decide) rfl (fun ls hl49 => ?_)
                have loop_50 : ∀ (k : Nat) (x_51 : Int32) (H : Heap) (locs : List Loc) (ls : Array Slot), (x_7.toInt + 1 ≤ x_51.toInt) ∧ (x_51.toInt ≤ 153) ∧ (v_14.toInt + 1 = (spc x_51.toNatClampNeg : Int)) → 153 - x_51.toInt < (k : Int) → WD D A s.heap (MW cI cJ M mr mi mf mg) H locs → lv_has ls 6 [(4, .int x_51), (3, .int v_14), (0, .ref M), (1, .int z_a), (2, .int z_b)] → W p l e ({ frames := 1, cells := 0, slots := 0, locals := 40 } : Room) s m ([.ref M, .int z_a, .int z_b] : List Value).toArray below meth c H locs 0 0 (MQ below (va_Qi (fun (r : Int32) (u : Unit) => (W30 (r : Int32).toInt (z_a).toInt (z_b).toInt)) (fun u => QW D cI cJ A ((fun (u : Unit) => (MW cI cJ M mr mi mf mg)) u)) A) ([.ref M, .int z_a, .int z_b] : List Value).toArray s 0 0 A) (F0 m 94 ls []) := by
                  intro k
                  induction k with
                  | zero =>
                    intro x_51 _ _ _ hinv hm
                    obtain ⟨hi_51_0, hi_51_1, hi_51_2⟩ := hinv
                    exact absurd hm (by omega)
                  | succ k ih_52 =>
                    intro x_51 H locs ls hinv hm hw53 hl54
                    obtain ⟨hi_51_0, hi_51_1, hi_51_2⟩ := hinv
                    refine lv_aload_n (pc := 94) E.1 E.2.1 dX12_wordAt_94 rfl (lv_at hl54 2 rfl) ?_
                    refine x_get (pc := 95) (T := TX12) (N := 70) (ci := 12) (v := .ref (mr 26)) E hw53 inX12 0 26 q_1425 rfl rfl (by decide) rfl rfl dX12_wordAt_95 ?_
                    refine lv_iload (pc := 98) E.1 E.2.1 dX12_wordAt_98 (lv_at hl54 0 rfl) ?_
                    refine x_iald (pc := 100) (f := (mf 26)) E hw53 13 rfl (inbE (a := x_51.toInt) rfl (by omega)) dX12_wordAt_100 ?_
                    refine lv_topi (fun v_55 ev_55 => ?_)
                    refine lv_bipush (pc := 101) (v := 32) E.1 E.2.1 dX12_wordAt_101 (by decide +kernel) ?_
                    refine lv_icmp_eq (pc := 103) (tgt := 115) E.1 E.2.1 dX12_wordAt_103 (by decide) (fun c_56 => ?_) (fun c_56 => ?_)
                    · skip
                      have hc_56 := eqE (a := v_55.toInt) (b := 32) rfl (by decide +kernel) c_56
                      refine lv_goto (pc := 115) (tgt := 5) E.1 E.2.1 dX12_wordAt_115 (by decide) ?_
                      exact ih_9 x_51 v_14 _ _ _ ⟨(by show 0 ≤ x_51.toInt ∧ x_51.toInt ≤ 153; omega), (by show (-1) ≤ v_14.toInt; omega), (by show v_14.toInt + 1 ≤ x_51.toInt; omega), ⟨hi_51_2, (wd_is lf_words ev_55 (by omega)).1 (by omega)⟩⟩ (by omega) hw53 (lv_sub hl54 [0, 1, 2, 3, 4] rfl)
                    · skip
                      have hc_56 := neE (a := v_55.toInt) (b := 32) rfl (by decide +kernel) c_56
                      have hz56 := wd_stop2 ev_55 (by omega) (by omega)
                      refine lv_iload (pc := 106) E.1 E.2.1 dX12_wordAt_106 (lv_at hl54 0 rfl) ?_
                      refine lv_iconst (pc := 108) (v := 1) E.1 E.2.1 dX12_wordAt_108 (by decide +kernel) ?_
                      refine lv_iadd (pc := 109) E.1 E.2.1 dX12_wordAt_109 ?_
                      refine lv_topi (fun v_57 ev_57 => ?_)
                      have hv_57 : v_57.toInt = x_51.toInt + 1 := by rw [ev_57]; exact addE rfl (by decide +kernel) (by omega)
                      refine lv_istore (pc := 110) (lv' := [(4, .int v_57), (3, .int v_14), (0, .ref M), (1, .int z_a), (2, .int z_b)]) E.1 E.2.1 dX12_wordAt_110 hl54 (by decide) rfl (fun ls hl58 => ?_)
                      refine lv_goto (pc := 112) (tgt := 94) E.1 E.2.1 dX12_wordAt_112 (by decide) ?_
                      exact ih_52 v_57 _ _ _ ⟨(by show x_7.toInt + 1 ≤ v_57.toInt; omega), (by show v_57.toInt ≤ 153; omega), (sp_same hi_51_2 ((wd_is lf_words ev_55 (by omega)).2 (by omega)) (by omega) (by omega))⟩ (by omega) hw53 (lv_sub hl58 [0, 1, 2, 3, 4] rfl)
                exact loop_50 (Int.toNat (153 - v_48.toInt) + 1) v_48 _ _ _ ⟨(by show x_7.toInt + 1 ≤ v_48.toInt; omega), (by show v_48.toInt ≤ 153; omega), (sp_next hi_8_3.1 hi_8_3.2 (by omega) (by omega) (by omega))⟩ (by omega) hw19 (lv_sub hl49 [0, 1, 3, 4, 5] rfl)
              · skip
                have hc_45 := eqE (a := v_42.toInt) (b := v_44.toInt) rfl rfl c_45
                have hz58 := wd_stop ev_42 ev_44 (by omega) (by omega) x_let (by omega) (by omega)
                refine lv_iload (pc := 52) E.1 E.2.1 dX12_wordAt_52 (lv_at hl20 1 rfl) ?_
                refine lv_iconst (pc := 54) (v := 1) E.1 E.2.1 dX12_wordAt_54 (by decide +kernel) ?_
                refine lv_iadd (pc := 55) E.1 E.2.1 dX12_wordAt_55 ?_
                refine lv_topi (fun v_59 ev_59 => ?_)
                have hv_59 : v_59.toInt = x_17.toInt + 1 := by rw [ev_59]; exact addE rfl (by decide +kernel) (by omega)
                refine lv_istore (pc := 56) (lv' := [(5, .int v_59), (3, .int v_14), (4, .int x_7), (0, .ref M), (1, .int z_a), (2, .int z_b)]) E.1 E.2.1 dX12_wordAt_56 hl20 (by decide) rfl (fun ls hl60 => ?_)
                refine lv_goto (pc := 58) (tgt := 20) E.1 E.2.1 dX12_wordAt_58 (by decide) ?_
                exact ih_18 v_59 _ _ _ ⟨(by show 0 ≤ v_59.toInt; omega), (by show z_a.toInt + v_59.toInt ≤ z_b.toInt; omega), (by show x_7.toInt + 1 + v_59.toInt ≤ 153; omega)⟩ (by omega) hw19 (lv_sub hl60 [1, 0, 2, 3, 4, 5] rfl)
        exact loop_16 (Int.toNat (400 - 0) + 1) 0 _ _ _ ⟨(by show 0 ≤ (0 : Int32).toInt; have k_0 : (0 : Int32).toInt = 0 := (by decide +kernel); omega), (by show z_a.toInt + (0 : Int32).toInt ≤ z_b.toInt; have k_0 : (0 : Int32).toInt = 0 := (by decide +kernel); omega), (by show x_7.toInt + 1 + (0 : Int32).toInt ≤ 153; have k_0 : (0 : Int32).toInt = 0 := (by decide +kernel); omega)⟩ (by have k_0 : (0 : Int32).toInt = 0 := (by decide +kernel); omega) hw10 (lv_sub hl15 [0, 1, 2, 3, 4, 5] rfl)
  exact loop_6 (Int.toNat (153 - 0) + 1) 0 (-1) _ _ _ ⟨(by show 0 ≤ (0 : Int32).toInt ∧ (0 : Int32).toInt ≤ 153; have k_0 : (0 : Int32).toInt = 0 := (by decide +kernel); omega), (by show (-1) ≤ ((-1) : Int32).toInt; have k_0 : ((-1) : Int32).toInt = -1 := (by decide +kernel); omega), (by show ((-1) : Int32).toInt + 1 ≤ (0 : Int32).toInt; have k_0 : ((-1) : Int32).toInt = -1 := (by decide +kernel); have k_1 : (0 : Int32).toInt = 0 := (by decide +kernel); omega), (by decide +kernel)⟩ (by have k_0 : (0 : Int32).toInt = 0 := (by decide +kernel); have k_1 : ((-1) : Int32).toInt = -1 := (by decide +kernel); omega) hw1 (lv_sub hl5 [0, 1, 2, 3, 4] rfl)

set_option maxHeartbeats 4000000 in
set_option maxRecDepth 100000 in
theorem s_reads2 (l : Launch) (D : va_G) (cI cJ : ClassId) (sz M : Nat) (mr : Nat → Nat) (mi : Nat → Int32) (mf : Nat → Nat → Int32) (mg : Nat → Nat → Int64)  (h0 : 0 ≤ (mi 22).toInt) (h1 : (mi 22).toInt ≤ (mi 21).toInt) (h2 : (mi 21).toInt ≤ 400) (h3 : ((mf 26) 153).toInt = 32) (lf_words : (∀ j : Nat, j < 154 → (mf 26) j = w0 j)) : Met l yX12_reads (Cond.code yX12_reads cX12_reads 2 none :: GW) ({ frames := 3, cells := 0, slots := 0, locals := 84 } : Room) (va_Pc [.ref M] (PW D cI cJ sz (MW cI cJ M mr mi mf mg) xT)) (va_Qv (fun (u : Int32 × Int32 × Int32 × Int32) => (0 ≤ u.2.1.toInt) ∧ (u.2.1.toInt ≤ u.1.toInt) ∧ (u.1.toInt ≤ (mi 21).toInt) ∧ (0 ≤ u.2.2.1.toInt) ∧ (u.2.2.1.toInt ≤ 4) ∧ (u.2.2.1.toInt ≤ 4 * u.1.toInt - 4 * u.2.1.toInt) ∧ ((mi 22).toInt ≤ u.2.1.toInt) ∧ (AGN u.2.2.1.toInt u.2.2.2.toInt u.2.1.toInt u.1.toInt)) (fun u => QW D cI cJ (va_A (MW cI cJ M mr mi mf mg) sz) ((fun (u : Int32 × Int32 × Int32 × Int32) => (MW cI cJ M mr (upd (upd (upd (upd mi 22 u.1) 23 u.2.1) 24 u.2.2.1) 25 u.2.2.2) mf mg)) u)) (va_A (MW cI cJ M mr mi mf mg) sz)) 0 0 (va_A (MW cI cJ M mr mi mf mg) sz) := by
  refine mk_met (y := yX12_reads) (bytes := cX12_reads) (maxL := 2) (avs := [.ref M]) (WS := (MW cI cJ M mr mi mf mg)) (Qf := fun A => va_Qv (fun (u : Int32 × Int32 × Int32 × Int32) => (0 ≤ u.2.1.toInt) ∧ (u.2.1.toInt ≤ u.1.toInt) ∧ (u.1.toInt ≤ (mi 21).toInt) ∧ (0 ≤ u.2.2.1.toInt) ∧ (u.2.2.1.toInt ≤ 4) ∧ (u.2.2.1.toInt ≤ 4 * u.1.toInt - 4 * u.2.1.toInt) ∧ ((mi 22).toInt ≤ u.2.1.toInt) ∧ (AGN u.2.2.1.toInt u.2.2.2.toInt u.2.1.toInt u.1.toInt)) (fun u => QW D cI cJ A ((fun (u : Int32 × Int32 × Int32 × Int32) => (MW cI cJ M mr (upd (upd (upd (upd mi 22 u.1) 23 u.2.1) 24 u.2.2.1) 25 u.2.2.2) mf mg)) u)) A) (by decide) (Nat.le_of_ble_eq_true rfl) ?_
  intro p e s m below meth c A ls E hr hlk hnm hX hw1 hl2
  have hl3 : lv_has ls 2 [(0, .ref M)] := hl2
  have loop_4 : ∀ (k : Nat) (x_5 : Int32) (H : Heap) (locs : List Loc) (ls : Array Slot), (0 ≤ x_5.toInt) ∧ (x_5.toInt ≤ (mi 21).toInt) ∧ ((mi 22).toInt ≤ x_5.toInt) → (mi 21).toInt - x_5.toInt < (k : Int) → WD D A s.heap (MW cI cJ M mr (upd mi 22 x_5) mf mg) H locs → lv_has ls 2 [(0, .ref M)] → W p l e ({ frames := 3, cells := 0, slots := 0, locals := 84 } : Room) s m ([.ref M] : List Value).toArray below meth c H locs 0 0 (MQ below (va_Qv (fun (u : Int32 × Int32 × Int32 × Int32) => (0 ≤ u.2.1.toInt) ∧ (u.2.1.toInt ≤ u.1.toInt) ∧ (u.1.toInt ≤ (mi 21).toInt) ∧ (0 ≤ u.2.2.1.toInt) ∧ (u.2.2.1.toInt ≤ 4) ∧ (u.2.2.1.toInt ≤ 4 * u.1.toInt - 4 * u.2.1.toInt) ∧ ((mi 22).toInt ≤ u.2.1.toInt) ∧ (AGN u.2.2.1.toInt u.2.2.2.toInt u.2.1.toInt u.1.toInt)) (fun u => QW D cI cJ A ((fun (u : Int32 × Int32 × Int32 × Int32) => (MW cI cJ M mr (upd (upd (upd (upd mi 22 u.1) 23 u.2.1) 24 u.2.2.1) 25 u.2.2.2) mf mg)) u)) A) ([.ref M] : List Value).toArray s 0 0 A) (F0 m 0 ls []) := by
    intro k
    induction k with
    | zero =>
      intro x_5 _ _ _ hinv hm
      obtain ⟨hi_5_0, hi_5_1, hi_5_2⟩ := hinv
      exact absurd hm (by omega)
    | succ k ih_6 =>
      intro x_5 H locs ls hinv hm hw7 hl8
      obtain ⟨hi_5_0, hi_5_1, hi_5_2⟩ := hinv
      refine lv_aload_n (pc := 0) E.1 E.2.1 dX12_reads_0 rfl (lv_at hl8 0 rfl) ?_
      refine lv_aload_n (pc := 1) E.1 E.2.1 dX12_reads_1 rfl (lv_at hl8 0 rfl) ?_
      refine x_get (pc := 2) (T := TX12) (N := 70) (ci := 12) (v := .int x_5) E hw7 inX12 0 22 q_1421 rfl rfl (by decide) rfl rfl dX12_reads_2 ?_
      refine cm_i (pc := 5) hw7 (rn_M (As := [.int x_5]) (rest := []) E hw7 (s_raw3 l D cI cJ _ M mr (upd mi 22 x_5) mf mg x_5 hi_5_0 (by show 0 ≤ (mi 21).toInt ∧ (mi 21).toInt ≤ 400; omega)) (gdV q_1670 q_1672 q_53 q_162 q_1673) hdV_X12_raw ⟨rfl, rfl⟩ ⟨(Nat.le_of_ble_eq_true rfl), (Nat.le_of_ble_eq_true rfl)⟩ ⟨(Nat.le_of_ble_eq_true rfl), (Nat.le_of_ble_eq_true rfl)⟩ 12 rfl rfl rfl rfl hl8.1 rfl (Nat.le_of_ble_eq_true rfl) dX12_reads_5) (fun r_10 u_9 H1 locs hp hw11 => ?_)
      generalize H1 = H at hw11 ⊢
      have hw12 : WD D A s.heap (MW cI cJ M mr (upd mi 22 x_5) mf mg) H locs := hw11
      obtain ⟨hp_13, hp_14⟩ := hp
      have hp_13 : (x_5).toInt < (mi 21).toInt → r_10 = (mf 20) (x_5).toNatClampNeg := hp_13
      rcases hp_14 with ⟨ha_15, ha_16⟩ | ha_17
      · skip
        have ha_15 : (mi 21).toInt ≤ x_5.toInt := ha_15
        have ha_16 : r_10.toInt = (-1) := ha_16
        refine lv_bipush (pc := 8) (v := 32) E.1 E.2.1 dX12_reads_8 (by decide +kernel) ?_
        refine lv_icmp_eq (pc := 10) (tgt := 26) E.1 E.2.1 dX12_reads_10 (by decide) (fun c_18 => absurd c_18 (mneE (a := r_10.toInt) (b := 32) rfl (by decide +kernel) (by omega))) (fun _ => ?_)
        refine lv_aload_n (pc := 13) E.1 E.2.1 dX12_reads_13 rfl (lv_at hl8 0 rfl) ?_
        refine lv_aload_n (pc := 14) E.1 E.2.1 dX12_reads_14 rfl (lv_at hl8 0 rfl) ?_
        refine x_get (pc := 15) (T := TX12) (N := 70) (ci := 12) (v := .int x_5) E hw12 inX12 0 22 q_1421 rfl rfl (by decide) rfl rfl dX12_reads_15 ?_
        refine cm_i (pc := 18) hw12 (rn_M (As := [.int x_5]) (rest := []) E hw12 (s_raw3 l D cI cJ _ M mr (upd mi 22 x_5) mf mg x_5 hi_5_0 (by show 0 ≤ (mi 21).toInt ∧ (mi 21).toInt ≤ 400; omega)) (gdV q_1670 q_1672 q_53 q_162 q_1673) hdV_X12_raw ⟨rfl, rfl⟩ ⟨(Nat.le_of_ble_eq_true rfl), (Nat.le_of_ble_eq_true rfl)⟩ ⟨(Nat.le_of_ble_eq_true rfl), (Nat.le_of_ble_eq_true rfl)⟩ 12 rfl rfl rfl rfl hl8.1 rfl (Nat.le_of_ble_eq_true rfl) dX12_reads_18) (fun r_20 u_19 H1 locs hp hw21 => ?_)
        generalize H1 = H at hw21 ⊢
        have hw22 : WD D A s.heap (MW cI cJ M mr (upd mi 22 x_5) mf mg) H locs := hw21
        obtain ⟨hp_23, hp_24⟩ := hp
        have hp_23 : (x_5).toInt < (mi 21).toInt → r_20 = (mf 20) (x_5).toNatClampNeg := hp_23
        rcases hp_24 with ⟨ha_25, ha_26⟩ | ha_27
        · skip
          have ha_25 : (mi 21).toInt ≤ x_5.toInt := ha_25
          have ha_26 : r_20.toInt = (-1) := ha_26
          refine lv_bipush (pc := 21) (v := 10) E.1 E.2.1 dX12_reads_21 (by decide +kernel) ?_
          refine lv_icmp_ne (pc := 23) (tgt := 39) E.1 E.2.1 dX12_reads_23 (by decide) (fun _ => ?_) (fun c_28 => absurd c_28 (mneE (a := r_20.toInt) (b := 10) rfl (by decide +kernel) (by omega)))
          refine lv_aload_n (pc := 39) E.1 E.2.1 dX12_reads_39 rfl (lv_at hl8 0 rfl) ?_
          refine lv_aload_n (pc := 40) E.1 E.2.1 dX12_reads_40 rfl (lv_at hl8 0 rfl) ?_
          refine x_get (pc := 41) (T := TX12) (N := 70) (ci := 12) (v := .int x_5) E hw22 inX12 0 22 q_1421 rfl rfl (by decide) rfl rfl dX12_reads_41 ?_
          refine x_put (pc := 44) (T := TX12) (N := 70) (ci := 12) (ws' := (MW cI cJ M mr (upd (upd mi 22 x_5) 23 x_5) mf mg)) E hw22 inX12 tyX12_ok nmX12 0 23 q_1422 rfl rfl (by decide) rfl rfl rfl rfl (Nat.le_of_ble_eq_true rfl) rfl dX12_reads_44 (fun H locs hw29 => ?_)
          refine lv_aload_n (pc := 47) E.1 E.2.1 dX12_reads_47 rfl (lv_at hl8 0 rfl) ?_
          refine lv_iconst (pc := 48) (v := 1) E.1 E.2.1 dX12_reads_48 (by decide +kernel) ?_
          refine x_put (pc := 49) (T := TX12) (N := 70) (ci := 12) (ws' := (MW cI cJ M mr (upd (upd (upd mi 22 x_5) 23 x_5) 24 1) mf mg)) E hw29 inX12 tyX12_ok nmX12 0 24 q_1423 rfl rfl (by decide) rfl rfl rfl rfl (Nat.le_of_ble_eq_true rfl) rfl dX12_reads_49 (fun H locs hw30 => ?_)
          refine lv_aload_n (pc := 52) E.1 E.2.1 dX12_reads_52 rfl (lv_at hl8 0 rfl) ?_
          refine lv_aload_n (pc := 53) E.1 E.2.1 dX12_reads_53 rfl (lv_at hl8 0 rfl) ?_
          refine x_get (pc := 54) (T := TX12) (N := 70) (ci := 12) (v := .int x_5) E hw30 inX12 0 22 q_1421 rfl rfl (by decide) rfl rfl dX12_reads_54 ?_
          refine cm_i (pc := 57) hw30 (rn_M (As := [.int x_5]) (rest := []) E hw30 (s_raw3 l D cI cJ _ M mr (upd (upd (upd mi 22 x_5) 23 x_5) 24 1) mf mg x_5 hi_5_0 (by show 0 ≤ (mi 21).toInt ∧ (mi 21).toInt ≤ 400; omega)) (gdV q_1670 q_1672 q_53 q_162 q_1673) hdV_X12_raw ⟨rfl, rfl⟩ ⟨(Nat.le_of_ble_eq_true rfl), (Nat.le_of_ble_eq_true rfl)⟩ ⟨(Nat.le_of_ble_eq_true rfl), (Nat.le_of_ble_eq_true rfl)⟩ 12 rfl rfl rfl rfl hl8.1 rfl (Nat.le_of_ble_eq_true rfl) dX12_reads_57) (fun r_32 u_31 H1 locs hp hw33 => ?_)
          generalize H1 = H at hw33 ⊢
          have hw34 : WD D A s.heap (MW cI cJ M mr (upd (upd (upd mi 22 x_5) 23 x_5) 24 1) mf mg) H locs := hw33
          obtain ⟨hp_35, hp_36⟩ := hp
          have hp_35 : (x_5).toInt < (mi 21).toInt → r_32 = (mf 20) (x_5).toNatClampNeg := hp_35
          rcases hp_36 with ⟨ha_37, ha_38⟩ | ha_39
          · skip
            have ha_37 : (mi 21).toInt ≤ x_5.toInt := ha_37
            have ha_38 : r_32.toInt = (-1) := ha_38
            refine lv_istore_n (pc := 60) (lv' := [(1, .int r_32), (0, .ref M)]) E.1 E.2.1 dX12_reads_60 rfl hl8 (by decide) rfl (fun ls hl40 => ?_)
            refine lv_iload_n (pc := 61) E.1 E.2.1 dX12_reads_61 rfl (lv_at hl40 0 rfl) ?_
            refine lv_iconst (pc := 62) (v := (-1)) E.1 E.2.1 dX12_reads_62 (by decide +kernel) ?_
            refine lv_icmp_ne (pc := 63) (tgt := 72) E.1 E.2.1 dX12_reads_63 (by decide) (fun c_41 => absurd (meqE (a := r_32.toInt) (b := (-1)) rfl (by decide +kernel) (by omega)) c_41) (fun _ => ?_)
            refine lv_aload_n (pc := 66) E.1 E.2.1 dX12_reads_66 rfl (lv_at hl40 1 rfl) ?_
            refine lv_iconst (pc := 67) (v := 0) E.1 E.2.1 dX12_reads_67 (by decide +kernel) ?_
            refine x_put (pc := 68) (T := TX12) (N := 70) (ci := 12) (ws' := (MW cI cJ M mr (upd (upd (upd mi 22 x_5) 23 x_5) 24 0) mf mg)) E hw34 inX12 tyX12_ok nmX12 0 24 q_1423 rfl rfl (by decide) rfl rfl rfl rfl (Nat.le_of_ble_eq_true rfl) rfl dX12_reads_68 (fun H locs hw42 => ?_)
            exact em_v (w1 := (fun (u : Int32 × Int32 × Int32 × Int32) => (MW cI cJ M mr (upd (upd (upd (upd mi 22 u.1) 23 u.2.1) 24 u.2.2.1) 25 u.2.2.2) mf mg))) E hr hlk (x_5, x_5, 0, (mi 25)) hw42 ⟨hi_5_0, (by show x_5.toInt ≤ x_5.toInt; have k_0 : (0 : Int32).toInt = 0 := (by decide +kernel); omega), hi_5_1, (by show 0 ≤ (0 : Int32).toInt; have k_0 : (0 : Int32).toInt = 0 := (by decide +kernel); omega), (by show (0 : Int32).toInt ≤ 4; have k_0 : (0 : Int32).toInt = 0 := (by decide +kernel); omega), (by show (0 : Int32).toInt ≤ 4 * x_5.toInt - 4 * x_5.toInt; have k_0 : (0 : Int32).toInt = 0 := (by decide +kernel); omega), hi_5_2, (show AGN ((0 : Int32).toInt) ((mi 25).toInt) x_5.toInt x_5.toInt from (fun h => absurd h (by decide +kernel)))⟩ (Nat.le_of_ble_eq_true rfl) (Nat.le_of_ble_eq_true rfl) dX12_reads_71
          · skip
            have ha_39 : x_5.toInt ≤ (mi 21).toInt - 1 := ha_39
            exfalso; omega
        · skip
          have ha_27 : x_5.toInt ≤ (mi 21).toInt - 1 := ha_27
          exfalso; omega
      · skip
        have ha_17 : x_5.toInt ≤ (mi 21).toInt - 1 := ha_17
        refine lv_bipush (pc := 8) (v := 32) E.1 E.2.1 dX12_reads_8 (by decide +kernel) ?_
        refine lv_icmp_eq (pc := 10) (tgt := 26) E.1 E.2.1 dX12_reads_10 (by decide) (fun c_43 => ?_) (fun c_43 => ?_)
        · skip
          have hc_43 := eqE (a := r_10.toInt) (b := 32) rfl (by decide +kernel) c_43
          refine lv_aload_n (pc := 26) E.1 E.2.1 dX12_reads_26 rfl (lv_at hl8 0 rfl) ?_
          refine lv_aload_n (pc := 27) E.1 E.2.1 dX12_reads_27 rfl (lv_at hl8 0 rfl) ?_
          refine x_get (pc := 28) (T := TX12) (N := 70) (ci := 12) (v := .int x_5) E hw12 inX12 0 22 q_1421 rfl rfl (by decide) rfl rfl dX12_reads_28 ?_
          refine lv_iconst (pc := 31) (v := 1) E.1 E.2.1 dX12_reads_31 (by decide +kernel) ?_
          refine lv_iadd (pc := 32) E.1 E.2.1 dX12_reads_32 ?_
          refine lv_topi (fun v_44 ev_44 => ?_)
          have hv_44 : v_44.toInt = x_5.toInt + 1 := by rw [ev_44]; exact addE rfl (by decide +kernel) (by omega)
          refine x_put (pc := 33) (T := TX12) (N := 70) (ci := 12) (ws' := (MW cI cJ M mr (upd mi 22 v_44) mf mg)) E hw12 inX12 tyX12_ok nmX12 0 22 q_1421 rfl rfl (by decide) rfl rfl rfl rfl (Nat.le_of_ble_eq_true rfl) rfl dX12_reads_33 (fun H locs hw45 => ?_)
          refine lv_goto (pc := 36) (tgt := 0) E.1 E.2.1 dX12_reads_36 (by decide) ?_
          exact ih_6 v_44 _ _ _ ⟨(by show 0 ≤ v_44.toInt; omega), (by show v_44.toInt ≤ (mi 21).toInt; omega), (by show (mi 22).toInt ≤ v_44.toInt; omega)⟩ (by omega) hw45 (lv_sub hl8 [0] rfl)
        · skip
          have hc_43 := neE (a := r_10.toInt) (b := 32) rfl (by decide +kernel) c_43
          refine lv_aload_n (pc := 13) E.1 E.2.1 dX12_reads_13 rfl (lv_at hl8 0 rfl) ?_
          refine lv_aload_n (pc := 14) E.1 E.2.1 dX12_reads_14 rfl (lv_at hl8 0 rfl) ?_
          refine x_get (pc := 15) (T := TX12) (N := 70) (ci := 12) (v := .int x_5) E hw12 inX12 0 22 q_1421 rfl rfl (by decide) rfl rfl dX12_reads_15 ?_
          refine cm_i (pc := 18) hw12 (rn_M (As := [.int x_5]) (rest := []) E hw12 (s_raw3 l D cI cJ _ M mr (upd mi 22 x_5) mf mg x_5 hi_5_0 (by show 0 ≤ (mi 21).toInt ∧ (mi 21).toInt ≤ 400; omega)) (gdV q_1670 q_1672 q_53 q_162 q_1673) hdV_X12_raw ⟨rfl, rfl⟩ ⟨(Nat.le_of_ble_eq_true rfl), (Nat.le_of_ble_eq_true rfl)⟩ ⟨(Nat.le_of_ble_eq_true rfl), (Nat.le_of_ble_eq_true rfl)⟩ 12 rfl rfl rfl rfl hl8.1 rfl (Nat.le_of_ble_eq_true rfl) dX12_reads_18) (fun r_47 u_46 H1 locs hp hw48 => ?_)
          generalize H1 = H at hw48 ⊢
          have hw49 : WD D A s.heap (MW cI cJ M mr (upd mi 22 x_5) mf mg) H locs := hw48
          obtain ⟨hp_50, hp_51⟩ := hp
          have hp_50 : (x_5).toInt < (mi 21).toInt → r_47 = (mf 20) (x_5).toNatClampNeg := hp_50
          rcases hp_51 with ⟨ha_52, ha_53⟩ | ha_54
          · skip
            have ha_52 : (mi 21).toInt ≤ x_5.toInt := ha_52
            have ha_53 : r_47.toInt = (-1) := ha_53
            exfalso; omega
          · skip
            have ha_54 : x_5.toInt ≤ (mi 21).toInt - 1 := ha_54
            refine lv_bipush (pc := 21) (v := 10) E.1 E.2.1 dX12_reads_21 (by decide +kernel) ?_
            refine lv_icmp_ne (pc := 23) (tgt := 39) E.1 E.2.1 dX12_reads_23 (by decide) (fun c_55 => ?_) (fun c_55 => ?_)
            · skip
              have hc_55 := neE (a := r_47.toInt) (b := 10) rfl (by decide +kernel) c_55
              refine lv_aload_n (pc := 39) E.1 E.2.1 dX12_reads_39 rfl (lv_at hl8 0 rfl) ?_
              refine lv_aload_n (pc := 40) E.1 E.2.1 dX12_reads_40 rfl (lv_at hl8 0 rfl) ?_
              refine x_get (pc := 41) (T := TX12) (N := 70) (ci := 12) (v := .int x_5) E hw49 inX12 0 22 q_1421 rfl rfl (by decide) rfl rfl dX12_reads_41 ?_
              refine x_put (pc := 44) (T := TX12) (N := 70) (ci := 12) (ws' := (MW cI cJ M mr (upd (upd mi 22 x_5) 23 x_5) mf mg)) E hw49 inX12 tyX12_ok nmX12 0 23 q_1422 rfl rfl (by decide) rfl rfl rfl rfl (Nat.le_of_ble_eq_true rfl) rfl dX12_reads_44 (fun H locs hw56 => ?_)
              refine lv_aload_n (pc := 47) E.1 E.2.1 dX12_reads_47 rfl (lv_at hl8 0 rfl) ?_
              refine lv_iconst (pc := 48) (v := 1) E.1 E.2.1 dX12_reads_48 (by decide +kernel) ?_
              refine x_put (pc := 49) (T := TX12) (N := 70) (ci := 12) (ws' := (MW cI cJ M mr (upd (upd (upd mi 22 x_5) 23 x_5) 24 1) mf mg)) E hw56 inX12 tyX12_ok nmX12 0 24 q_1423 rfl rfl (by decide) rfl rfl rfl rfl (Nat.le_of_ble_eq_true rfl) rfl dX12_reads_49 (fun H locs hw57 => ?_)
              refine lv_aload_n (pc := 52) E.1 E.2.1 dX12_reads_52 rfl (lv_at hl8 0 rfl) ?_
              refine lv_aload_n (pc := 53) E.1 E.2.1 dX12_reads_53 rfl (lv_at hl8 0 rfl) ?_
              refine x_get (pc := 54) (T := TX12) (N := 70) (ci := 12) (v := .int x_5) E hw57 inX12 0 22 q_1421 rfl rfl (by decide) rfl rfl dX12_reads_54 ?_
              refine cm_i (pc := 57) hw57 (rn_M (As := [.int x_5]) (rest := []) E hw57 (s_raw3 l D cI cJ _ M mr (upd (upd (upd mi 22 x_5) 23 x_5) 24 1) mf mg x_5 hi_5_0 (by show 0 ≤ (mi 21).toInt ∧ (mi 21).toInt ≤ 400; omega)) (gdV q_1670 q_1672 q_53 q_162 q_1673) hdV_X12_raw ⟨rfl, rfl⟩ ⟨(Nat.le_of_ble_eq_true rfl), (Nat.le_of_ble_eq_true rfl)⟩ ⟨(Nat.le_of_ble_eq_true rfl), (Nat.le_of_ble_eq_true rfl)⟩ 12 rfl rfl rfl rfl hl8.1 rfl (Nat.le_of_ble_eq_true rfl) dX12_reads_57) (fun r_59 u_58 H1 locs hp hw60 => ?_)
              generalize H1 = H at hw60 ⊢
              have hw61 : WD D A s.heap (MW cI cJ M mr (upd (upd (upd mi 22 x_5) 23 x_5) 24 1) mf mg) H locs := hw60
              obtain ⟨hp_62, hp_63⟩ := hp
              have hp_62 : (x_5).toInt < (mi 21).toInt → r_59 = (mf 20) (x_5).toNatClampNeg := hp_62
              rcases hp_63 with ⟨ha_64, ha_65⟩ | ha_66
              · skip
                have ha_64 : (mi 21).toInt ≤ x_5.toInt := ha_64
                have ha_65 : r_59.toInt = (-1) := ha_65
                exfalso; omega
              · skip
                have ha_66 : x_5.toInt ≤ (mi 21).toInt - 1 := ha_66
                refine lv_istore_n (pc := 60) (lv' := [(1, .int r_59), (0, .ref M)]) E.1 E.2.1 dX12_reads_60 rfl hl8 (by decide) rfl (fun ls hl67 => ?_)
                refine lv_iload_n (pc := 61) E.1 E.2.1 dX12_reads_61 rfl (lv_at hl67 0 rfl) ?_
                refine lv_iconst (pc := 62) (v := (-1)) E.1 E.2.1 dX12_reads_62 (by decide +kernel) ?_
                refine lv_icmp_ne (pc := 63) (tgt := 72) E.1 E.2.1 dX12_reads_63 (by decide) (fun c_68 => ?_) (fun c_68 => ?_)
                · skip
                  have hc_68 := neE (a := r_59.toInt) (b := (-1)) rfl (by decide +kernel) c_68
                  refine lv_aload_n (pc := 72) E.1 E.2.1 dX12_reads_72 rfl (lv_at hl67 1 rfl) ?_
                  refine lv_aload_n (pc := 73) E.1 E.2.1 dX12_reads_73 rfl (lv_at hl67 1 rfl) ?_
                  refine x_get (pc := 74) (T := TX12) (N := 70) (ci := 12) (v := .int x_5) E hw61 inX12 0 22 q_1421 rfl rfl (by decide) rfl rfl dX12_reads_74 ?_
                  refine lv_iconst (pc := 77) (v := 1) E.1 E.2.1 dX12_reads_77 (by decide +kernel) ?_
                  refine lv_iadd (pc := 78) E.1 E.2.1 dX12_reads_78 ?_
                  refine lv_topi (fun v_69 ev_69 => ?_)
                  have hv_69 : v_69.toInt = x_5.toInt + 1 := by rw [ev_69]; exact addE rfl (by decide +kernel) (by omega)
                  refine x_put (pc := 79) (T := TX12) (N := 70) (ci := 12) (ws' := (MW cI cJ M mr (upd (upd (upd mi 22 v_69) 23 x_5) 24 1) mf mg)) E hw61 inX12 tyX12_ok nmX12 0 22 q_1421 rfl rfl (by decide) rfl rfl rfl rfl (Nat.le_of_ble_eq_true rfl) rfl dX12_reads_79 (fun H locs hw70 => ?_)
                  refine lv_aload_n (pc := 82) E.1 E.2.1 dX12_reads_82 rfl (lv_at hl67 1 rfl) ?_
                  refine lv_iload_n (pc := 83) E.1 E.2.1 dX12_reads_83 rfl (lv_at hl67 0 rfl) ?_
                  refine x_put (pc := 84) (T := TX12) (N := 70) (ci := 12) (ws' := (MW cI cJ M mr (upd (upd (upd (upd mi 22 v_69) 23 x_5) 24 1) 25 r_59) mf mg)) E hw70 inX12 tyX12_ok nmX12 0 25 q_1424 rfl rfl (by decide) rfl rfl rfl rfl (Nat.le_of_ble_eq_true rfl) rfl dX12_reads_84 (fun H locs hw71 => ?_)
                  refine lv_aload_n (pc := 87) E.1 E.2.1 dX12_reads_87 rfl (lv_at hl67 1 rfl) ?_
                  refine lv_iload_n (pc := 88) E.1 E.2.1 dX12_reads_88 rfl (lv_at hl67 0 rfl) ?_
                  refine cm_i (pc := 89) hw71 (rn_M (As := [.int r_59]) (rest := []) E hw71 (s_isLetter2 l D cI cJ _ M mr (upd (upd (upd (upd mi 22 v_69) 23 x_5) 24 1) 25 r_59) mf mg r_59) (gdV q_1674 q_1676 q_54 q_162 q_1677) hdV_X12_isLetter ⟨rfl, rfl⟩ ⟨(Nat.le_of_ble_eq_true rfl), (Nat.le_of_ble_eq_true rfl)⟩ ⟨(Nat.le_of_ble_eq_true rfl), (Nat.le_of_ble_eq_true rfl)⟩ 12 rfl rfl rfl rfl hl67.1 rfl (Nat.le_of_ble_eq_true rfl) dX12_reads_89) (fun r_73 u_72 H1 locs hp hw74 => ?_)
                  generalize H1 = H at hw74 ⊢
                  have hw75 : WD D A s.heap (MW cI cJ M mr (upd (upd (upd (upd mi 22 v_69) 23 x_5) 24 1) 25 r_59) mf mg) H locs := hw74
                  have hp_76 := hp
                  rcases hp_76 with ⟨rfl, ha_77, ha_78⟩ | rfl
                  · skip
                    have ha_77 : 65 ≤ r_59.toInt := ha_77
                    have ha_78 : r_59.toInt ≤ 122 := ha_78
                    refine lv_if_eq (pc := 92) (tgt := 155) E.1 E.2.1 dX12_reads_92 (by decide) (fun c_79 => absurd c_79 (mneE (a := 1) (b := 0) (by decide +kernel) (by decide +kernel) (by omega))) (fun _ => ?_)
                    have loop_80 : ∀ (k : Nat) (x_81 : Int32) (H : Heap) (locs : List Loc) (ls : Array Slot), (x_5.toInt + 1 ≤ x_81.toInt) ∧ (x_81.toInt ≤ (mi 21).toInt) ∧ (LT (mf 20) x_5.toInt x_81.toInt) → (mi 21).toInt - x_81.toInt < (k : Int) → WD D A s.heap (MW cI cJ M mr (upd (upd (upd (upd mi 22 x_81) 23 x_5) 24 1) 25 r_59) mf mg) H locs → lv_has ls 2 [(1, .int r_59), (0, .ref M)] → W p l e ({ frames := 3, cells := 0, slots := 0, locals := 84 } : Room) s m ([.ref M] : List Value).toArray below meth c H locs 0 0 (MQ below (va_Qv (fun (u : Int32 × Int32 × Int32 × Int32) => (0 ≤ u.2.1.toInt) ∧ (u.2.1.toInt ≤ u.1.toInt) ∧ (u.1.toInt ≤ (mi 21).toInt) ∧ (0 ≤ u.2.2.1.toInt) ∧ (u.2.2.1.toInt ≤ 4) ∧ (u.2.2.1.toInt ≤ 4 * u.1.toInt - 4 * u.2.1.toInt) ∧ ((mi 22).toInt ≤ u.2.1.toInt) ∧ (AGN u.2.2.1.toInt u.2.2.2.toInt u.2.1.toInt u.1.toInt)) (fun u => QW D cI cJ A ((fun (u : Int32 × Int32 × Int32 × Int32) => (MW cI cJ M mr (upd (upd (upd (upd mi 22 u.1) 23 u.2.1) 24 u.2.2.1) 25 u.2.2.2) mf mg)) u)) A) ([.ref M] : List Value).toArray s 0 0 A) (F0 m 95 ls []) := by
                      intro k
                      induction k with
                      | zero =>
                        intro x_81 _ _ _ hinv hm
                        obtain ⟨hi_81_0, hi_81_1, hi_81_2⟩ := hinv
                        exact absurd hm (by omega)
                      | succ k ih_82 =>
                        intro x_81 H locs ls hinv hm hw83 hl84
                        obtain ⟨hi_81_0, hi_81_1, hi_81_2⟩ := hinv
                        refine lv_aload_n (pc := 95) E.1 E.2.1 dX12_reads_95 rfl (lv_at hl84 1 rfl) ?_
                        refine lv_aload_n (pc := 96) E.1 E.2.1 dX12_reads_96 rfl (lv_at hl84 1 rfl) ?_
                        refine lv_aload_n (pc := 97) E.1 E.2.1 dX12_reads_97 rfl (lv_at hl84 1 rfl) ?_
                        refine x_get (pc := 98) (T := TX12) (N := 70) (ci := 12) (v := .int x_81) E hw83 inX12 0 22 q_1421 rfl rfl (by decide) rfl rfl dX12_reads_98 ?_
                        refine cm_i (pc := 101) hw83 (rn_M (As := [.int x_81]) (rest := [.ref M]) E hw83 (s_raw3 l D cI cJ _ M mr (upd (upd (upd (upd mi 22 x_81) 23 x_5) 24 1) 25 r_59) mf mg x_81 (by show 0 ≤ x_81.toInt; omega) (by show 0 ≤ (mi 21).toInt ∧ (mi 21).toInt ≤ 400; omega)) (gdV q_1670 q_1672 q_53 q_162 q_1673) hdV_X12_raw ⟨rfl, rfl⟩ ⟨(Nat.le_of_ble_eq_true rfl), (Nat.le_of_ble_eq_true rfl)⟩ ⟨(Nat.le_of_ble_eq_true rfl), (Nat.le_of_ble_eq_true rfl)⟩ 12 rfl rfl rfl rfl hl84.1 rfl (Nat.le_of_ble_eq_true rfl) dX12_reads_101) (fun r_86 u_85 H1 locs hp hw87 => ?_)
                        generalize H1 = H at hw87 ⊢
                        have hw88 : WD D A s.heap (MW cI cJ M mr (upd (upd (upd (upd mi 22 x_81) 23 x_5) 24 1) 25 r_59) mf mg) H locs := hw87
                        obtain ⟨hp_89, hp_90⟩ := hp
                        have hp_89 : (x_81).toInt < (mi 21).toInt → r_86 = (mf 20) (x_81).toNatClampNeg := hp_89
                        rcases hp_90 with ⟨ha_91, ha_92⟩ | ha_93
                        · skip
                          have ha_91 : (mi 21).toInt ≤ x_81.toInt := ha_91
                          have ha_92 : r_86.toInt = (-1) := ha_92
                          refine cm_i (pc := 104) hw88 (rn_M (As := [.int r_86]) (rest := []) E hw88 (s_isLetter2 l D cI cJ _ M mr (upd (upd (upd (upd mi 22 x_81) 23 x_5) 24 1) 25 r_59) mf mg r_86) (gdV q_1674 q_1676 q_54 q_162 q_1677) hdV_X12_isLetter ⟨rfl, rfl⟩ ⟨(Nat.le_of_ble_eq_true rfl), (Nat.le_of_ble_eq_true rfl)⟩ ⟨(Nat.le_of_ble_eq_true rfl), (Nat.le_of_ble_eq_true rfl)⟩ 12 rfl rfl rfl rfl hl84.1 rfl (Nat.le_of_ble_eq_true rfl) dX12_reads_104) (fun r_95 u_94 H1 locs hp hw96 => ?_)
                          generalize H1 = H at hw96 ⊢
                          have hw97 : WD D A s.heap (MW cI cJ M mr (upd (upd (upd (upd mi 22 x_81) 23 x_5) 24 1) 25 r_59) mf mg) H locs := hw96
                          have hp_98 := hp
                          rcases hp_98 with ⟨rfl, ha_99, ha_100⟩ | rfl
                          · skip
                            have ha_99 : 65 ≤ r_86.toInt := ha_99
                            have ha_100 : r_86.toInt ≤ 122 := ha_100
                            exfalso; omega
                          · skip
                            refine lv_if_eq (pc := 107) (tgt := 123) E.1 E.2.1 dX12_reads_107 (by decide) (fun _ => ?_) (fun c_101 => absurd (meqE (a := 0) (b := 0) (by decide +kernel) (by decide +kernel) (by omega)) c_101)
                            refine lv_aload_n (pc := 123) E.1 E.2.1 dX12_reads_123 rfl (lv_at hl84 1 rfl) ?_
                            refine lv_aload_n (pc := 124) E.1 E.2.1 dX12_reads_124 rfl (lv_at hl84 1 rfl) ?_
                            refine lv_aload_n (pc := 125) E.1 E.2.1 dX12_reads_125 rfl (lv_at hl84 1 rfl) ?_
                            refine x_get (pc := 126) (T := TX12) (N := 70) (ci := 12) (v := .int x_5) E hw97 inX12 0 23 q_1422 rfl rfl (by decide) rfl rfl dX12_reads_126 ?_
                            refine lv_aload_n (pc := 129) E.1 E.2.1 dX12_reads_129 rfl (lv_at hl84 1 rfl) ?_
                            refine x_get (pc := 130) (T := TX12) (N := 70) (ci := 12) (v := .int x_81) E hw97 inX12 0 22 q_1421 rfl rfl (by decide) rfl rfl dX12_reads_130 ?_
                            refine cm_i (pc := 133) hw97 (rn_M (As := [.int x_5, .int x_81]) (rest := [.ref M]) E hw97 (s_wordAt2 l D cI cJ _ M mr (upd (upd (upd (upd mi 22 x_81) 23 x_5) 24 1) 25 r_59) mf mg x_5 x_81 hi_5_0 (by show x_5.toInt ≤ x_81.toInt; omega) (by show x_81.toInt ≤ 400; omega) h3 (show (∀ j : Nat, j < 154 → (mf 26) j = w0 j) from lf_words) (show LT (mf 20) (x_5).toInt (x_81).toInt from hi_81_2)) (gdV q_1678 q_1680 q_55 q_162 q_1681) hdV_X12_wordAt ⟨rfl, rfl⟩ ⟨(Nat.le_of_ble_eq_true rfl), (Nat.le_of_ble_eq_true rfl)⟩ ⟨(Nat.le_of_ble_eq_true rfl), (Nat.le_of_ble_eq_true rfl)⟩ 12 rfl rfl rfl rfl hl84.1 rfl (Nat.le_of_ble_eq_true rfl) dX12_reads_133) (fun r_103 u_102 H1 locs hp hw104 => ?_)
                            generalize H1 = H at hw104 ⊢
                            have hw105 : WD D A s.heap (MW cI cJ M mr (upd (upd (upd (upd mi 22 x_81) 23 x_5) 24 1) 25 r_59) mf mg) H locs := hw104
                            have hp_106 := hp
                            have hp_106 : W30 (r_103 : Int32).toInt (x_5).toInt (x_81).toInt := hp_106
                            refine x_put (pc := 136) (T := TX12) (N := 70) (ci := 12) (ws' := (MW cI cJ M mr (upd (upd (upd (upd mi 22 x_81) 23 x_5) 24 1) 25 r_103) mf mg)) E hw105 inX12 tyX12_ok nmX12 0 25 q_1424 rfl rfl (by decide) rfl rfl rfl rfl (Nat.le_of_ble_eq_true rfl) rfl dX12_reads_136 (fun H locs hw107 => ?_)
                            refine lv_aload_n (pc := 139) E.1 E.2.1 dX12_reads_139 rfl (lv_at hl84 1 rfl) ?_
                            refine x_get (pc := 140) (T := TX12) (N := 70) (ci := 12) (v := .int r_103) E hw107 inX12 0 25 q_1424 rfl rfl (by decide) rfl rfl dX12_reads_140 ?_
                            refine lv_iconst (pc := 143) (v := (-1)) E.1 E.2.1 dX12_reads_143 (by decide +kernel) ?_
                            refine lv_icmp_eq (pc := 144) (tgt := 273) E.1 E.2.1 dX12_reads_144 (by decide) (fun c_108 => ?_) (fun c_108 => ?_)
                            · skip
                              have hc_108 := eqE (a := r_103.toInt) (b := (-1)) rfl (by decide +kernel) c_108
                              exact em_v (w1 := (fun (u : Int32 × Int32 × Int32 × Int32) => (MW cI cJ M mr (upd (upd (upd (upd mi 22 u.1) 23 u.2.1) 24 u.2.2.1) 25 u.2.2.2) mf mg))) E hr hlk (x_81, x_5, 1, r_103) hw107 ⟨hi_5_0, (by show x_5.toInt ≤ x_81.toInt; have k_0 : (1 : Int32).toInt = 1 := (by decide +kernel); omega), hi_81_1, (by show 0 ≤ (1 : Int32).toInt; have k_0 : (1 : Int32).toInt = 1 := (by decide +kernel); omega), (by show (1 : Int32).toInt ≤ 4; have k_0 : (1 : Int32).toInt = 1 := (by decide +kernel); omega), (by show (1 : Int32).toInt ≤ 4 * x_81.toInt - 4 * x_5.toInt; have k_0 : (1 : Int32).toInt = 1 := (by decide +kernel); omega), hi_5_2, (show AGN ((1 : Int32).toInt) r_103.toInt x_5.toInt x_81.toInt from (fun h => absurd h (by decide +kernel)))⟩ (Nat.le_of_ble_eq_true rfl) (Nat.le_of_ble_eq_true rfl) dX12_reads_273
                            · skip
                              have hc_108 := neE (a := r_103.toInt) (b := (-1)) rfl (by decide +kernel) c_108
                              refine lv_aload_n (pc := 147) E.1 E.2.1 dX12_reads_147 rfl (lv_at hl84 1 rfl) ?_
                              refine lv_iconst (pc := 148) (v := 2) E.1 E.2.1 dX12_reads_148 (by decide +kernel) ?_
                              refine x_put (pc := 149) (T := TX12) (N := 70) (ci := 12) (ws' := (MW cI cJ M mr (upd (upd (upd (upd mi 22 x_81) 23 x_5) 24 2) 25 r_103) mf mg)) E hw107 inX12 tyX12_ok nmX12 0 24 q_1423 rfl rfl (by decide) rfl rfl rfl rfl (Nat.le_of_ble_eq_true rfl) rfl dX12_reads_149 (fun H locs hw109 => ?_)
                              refine lv_goto (pc := 152) (tgt := 273) E.1 E.2.1 dX12_reads_152 (by decide) ?_
                              exact em_v (w1 := (fun (u : Int32 × Int32 × Int32 × Int32) => (MW cI cJ M mr (upd (upd (upd (upd mi 22 u.1) 23 u.2.1) 24 u.2.2.1) 25 u.2.2.2) mf mg))) E hr hlk (x_81, x_5, 2, r_103) hw109 ⟨hi_5_0, (by show x_5.toInt ≤ x_81.toInt; have k_0 : (2 : Int32).toInt = 2 := (by decide +kernel); omega), hi_81_1, (by show 0 ≤ (2 : Int32).toInt; have k_0 : (2 : Int32).toInt = 2 := (by decide +kernel); omega), (by show (2 : Int32).toInt ≤ 4; have k_0 : (2 : Int32).toInt = 2 := (by decide +kernel); omega), (by show (2 : Int32).toInt ≤ 4 * x_81.toInt - 4 * x_5.toInt; have k_0 : (2 : Int32).toInt = 2 := (by decide +kernel); omega), hi_5_2, (show AGN ((2 : Int32).toInt) r_103.toInt x_5.toInt x_81.toInt from (fun _ => hp_106))⟩ (Nat.le_of_ble_eq_true rfl) (Nat.le_of_ble_eq_true rfl) dX12_reads_273
                        · skip
                          have ha_93 : x_81.toInt ≤ (mi 21).toInt - 1 := ha_93
                          refine cm_i (pc := 104) hw88 (rn_M (As := [.int r_86]) (rest := []) E hw88 (s_isLetter2 l D cI cJ _ M mr (upd (upd (upd (upd mi 22 x_81) 23 x_5) 24 1) 25 r_59) mf mg r_86) (gdV q_1674 q_1676 q_54 q_162 q_1677) hdV_X12_isLetter ⟨rfl, rfl⟩ ⟨(Nat.le_of_ble_eq_true rfl), (Nat.le_of_ble_eq_true rfl)⟩ ⟨(Nat.le_of_ble_eq_true rfl), (Nat.le_of_ble_eq_true rfl)⟩ 12 rfl rfl rfl rfl hl84.1 rfl (Nat.le_of_ble_eq_true rfl) dX12_reads_104) (fun r_111 u_110 H1 locs hp hw112 => ?_)
                          generalize H1 = H at hw112 ⊢
                          have hw113 : WD D A s.heap (MW cI cJ M mr (upd (upd (upd (upd mi 22 x_81) 23 x_5) 24 1) 25 r_59) mf mg) H locs := hw112
                          have hp_114 := hp
                          rcases hp_114 with ⟨rfl, ha_115, ha_116⟩ | rfl
                          · skip
                            have ha_115 : 65 ≤ r_86.toInt := ha_115
                            have ha_116 : r_86.toInt ≤ 122 := ha_116
                            refine lv_if_eq (pc := 107) (tgt := 123) E.1 E.2.1 dX12_reads_107 (by decide) (fun c_117 => absurd c_117 (mneE (a := 1) (b := 0) (by decide +kernel) (by decide +kernel) (by omega))) (fun _ => ?_)
                            refine lv_aload_n (pc := 110) E.1 E.2.1 dX12_reads_110 rfl (lv_at hl84 1 rfl) ?_
                            refine lv_aload_n (pc := 111) E.1 E.2.1 dX12_reads_111 rfl (lv_at hl84 1 rfl) ?_
                            refine x_get (pc := 112) (T := TX12) (N := 70) (ci := 12) (v := .int x_81) E hw113 inX12 0 22 q_1421 rfl rfl (by decide) rfl rfl dX12_reads_112 ?_
                            refine lv_iconst (pc := 115) (v := 1) E.1 E.2.1 dX12_reads_115 (by decide +kernel) ?_
                            refine lv_iadd (pc := 116) E.1 E.2.1 dX12_reads_116 ?_
                            refine lv_topi (fun v_118 ev_118 => ?_)
                            have hv_118 : v_118.toInt = x_81.toInt + 1 := by rw [ev_118]; exact addE rfl (by decide +kernel) (by omega)
                            refine x_put (pc := 117) (T := TX12) (N := 70) (ci := 12) (ws' := (MW cI cJ M mr (upd (upd (upd (upd mi 22 v_118) 23 x_5) 24 1) 25 r_59) mf mg)) E hw113 inX12 tyX12_ok nmX12 0 22 q_1421 rfl rfl (by decide) rfl rfl rfl rfl (Nat.le_of_ble_eq_true rfl) rfl dX12_reads_117 (fun H locs hw119 => ?_)
                            refine lv_goto (pc := 120) (tgt := 95) E.1 E.2.1 dX12_reads_120 (by decide) ?_
                            exact ih_82 v_118 _ _ _ ⟨(by show x_5.toInt + 1 ≤ v_118.toInt; omega), (by show v_118.toInt ≤ (mi 21).toInt; omega), (LT_step (i := x_81) (v := r_86) hi_81_2 (hp_89 (by omega)) (by omega) (by omega) (by omega) (by omega))⟩ (by omega) hw119 (lv_sub hl84 [0, 1] rfl)
                          · skip
                            refine lv_if_eq (pc := 107) (tgt := 123) E.1 E.2.1 dX12_reads_107 (by decide) (fun _ => ?_) (fun c_120 => absurd (meqE (a := 0) (b := 0) (by decide +kernel) (by decide +kernel) (by omega)) c_120)
                            refine lv_aload_n (pc := 123) E.1 E.2.1 dX12_reads_123 rfl (lv_at hl84 1 rfl) ?_
                            refine lv_aload_n (pc := 124) E.1 E.2.1 dX12_reads_124 rfl (lv_at hl84 1 rfl) ?_
                            refine lv_aload_n (pc := 125) E.1 E.2.1 dX12_reads_125 rfl (lv_at hl84 1 rfl) ?_
                            refine x_get (pc := 126) (T := TX12) (N := 70) (ci := 12) (v := .int x_5) E hw113 inX12 0 23 q_1422 rfl rfl (by decide) rfl rfl dX12_reads_126 ?_
                            refine lv_aload_n (pc := 129) E.1 E.2.1 dX12_reads_129 rfl (lv_at hl84 1 rfl) ?_
                            refine x_get (pc := 130) (T := TX12) (N := 70) (ci := 12) (v := .int x_81) E hw113 inX12 0 22 q_1421 rfl rfl (by decide) rfl rfl dX12_reads_130 ?_
                            refine cm_i (pc := 133) hw113 (rn_M (As := [.int x_5, .int x_81]) (rest := [.ref M]) E hw113 (s_wordAt2 l D cI cJ _ M mr (upd (upd (upd (upd mi 22 x_81) 23 x_5) 24 1) 25 r_59) mf mg x_5 x_81 hi_5_0 (by show x_5.toInt ≤ x_81.toInt; omega) (by show x_81.toInt ≤ 400; omega) h3 (show (∀ j : Nat, j < 154 → (mf 26) j = w0 j) from lf_words) (show LT (mf 20) (x_5).toInt (x_81).toInt from hi_81_2)) (gdV q_1678 q_1680 q_55 q_162 q_1681) hdV_X12_wordAt ⟨rfl, rfl⟩ ⟨(Nat.le_of_ble_eq_true rfl), (Nat.le_of_ble_eq_true rfl)⟩ ⟨(Nat.le_of_ble_eq_true rfl), (Nat.le_of_ble_eq_true rfl)⟩ 12 rfl rfl rfl rfl hl84.1 rfl (Nat.le_of_ble_eq_true rfl) dX12_reads_133) (fun r_122 u_121 H1 locs hp hw123 => ?_)
                            generalize H1 = H at hw123 ⊢
                            have hw124 : WD D A s.heap (MW cI cJ M mr (upd (upd (upd (upd mi 22 x_81) 23 x_5) 24 1) 25 r_59) mf mg) H locs := hw123
                            have hp_125 := hp
                            have hp_125 : W30 (r_122 : Int32).toInt (x_5).toInt (x_81).toInt := hp_125
                            refine x_put (pc := 136) (T := TX12) (N := 70) (ci := 12) (ws' := (MW cI cJ M mr (upd (upd (upd (upd mi 22 x_81) 23 x_5) 24 1) 25 r_122) mf mg)) E hw124 inX12 tyX12_ok nmX12 0 25 q_1424 rfl rfl (by decide) rfl rfl rfl rfl (Nat.le_of_ble_eq_true rfl) rfl dX12_reads_136 (fun H locs hw126 => ?_)
                            refine lv_aload_n (pc := 139) E.1 E.2.1 dX12_reads_139 rfl (lv_at hl84 1 rfl) ?_
                            refine x_get (pc := 140) (T := TX12) (N := 70) (ci := 12) (v := .int r_122) E hw126 inX12 0 25 q_1424 rfl rfl (by decide) rfl rfl dX12_reads_140 ?_
                            refine lv_iconst (pc := 143) (v := (-1)) E.1 E.2.1 dX12_reads_143 (by decide +kernel) ?_
                            refine lv_icmp_eq (pc := 144) (tgt := 273) E.1 E.2.1 dX12_reads_144 (by decide) (fun c_127 => ?_) (fun c_127 => ?_)
                            · skip
                              have hc_127 := eqE (a := r_122.toInt) (b := (-1)) rfl (by decide +kernel) c_127
                              exact em_v (w1 := (fun (u : Int32 × Int32 × Int32 × Int32) => (MW cI cJ M mr (upd (upd (upd (upd mi 22 u.1) 23 u.2.1) 24 u.2.2.1) 25 u.2.2.2) mf mg))) E hr hlk (x_81, x_5, 1, r_122) hw126 ⟨hi_5_0, (by show x_5.toInt ≤ x_81.toInt; have k_0 : (1 : Int32).toInt = 1 := (by decide +kernel); omega), hi_81_1, (by show 0 ≤ (1 : Int32).toInt; have k_0 : (1 : Int32).toInt = 1 := (by decide +kernel); omega), (by show (1 : Int32).toInt ≤ 4; have k_0 : (1 : Int32).toInt = 1 := (by decide +kernel); omega), (by show (1 : Int32).toInt ≤ 4 * x_81.toInt - 4 * x_5.toInt; have k_0 : (1 : Int32).toInt = 1 := (by decide +kernel); omega), hi_5_2, (show AGN ((1 : Int32).toInt) r_122.toInt x_5.toInt x_81.toInt from (fun h => absurd h (by decide +kernel)))⟩ (Nat.le_of_ble_eq_true rfl) (Nat.le_of_ble_eq_true rfl) dX12_reads_273
                            · skip
                              have hc_127 := neE (a := r_122.toInt) (b := (-1)) rfl (by decide +kernel) c_127
                              refine lv_aload_n (pc := 147) E.1 E.2.1 dX12_reads_147 rfl (lv_at hl84 1 rfl) ?_
                              refine lv_iconst (pc := 148) (v := 2) E.1 E.2.1 dX12_reads_148 (by decide +kernel) ?_
                              refine x_put (pc := 149) (T := TX12) (N := 70) (ci := 12) (ws' := (MW cI cJ M mr (upd (upd (upd (upd mi 22 x_81) 23 x_5) 24 2) 25 r_122) mf mg)) E hw126 inX12 tyX12_ok nmX12 0 24 q_1423 rfl rfl (by decide) rfl rfl rfl rfl (Nat.le_of_ble_eq_true rfl) rfl dX12_reads_149 (fun H locs hw128 => ?_)
                              refine lv_goto (pc := 152) (tgt := 273) E.1 E.2.1 dX12_reads_152 (by decide) ?_
                              exact em_v (w1 := (fun (u : Int32 × Int32 × Int32 × Int32) => (MW cI cJ M mr (upd (upd (upd (upd mi 22 u.1) 23 u.2.1) 24 u.2.2.1) 25 u.2.2.2) mf mg))) E hr hlk (x_81, x_5, 2, r_122) hw128 ⟨hi_5_0, (by show x_5.toInt ≤ x_81.toInt; have k_0 : (2 : Int32).toInt = 2 := (by decide +kernel); omega), hi_81_1, (by show 0 ≤ (2 : Int32).toInt; have k_0 : (2 : Int32).toInt = 2 := (by decide +kernel); omega), (by show (2 : Int32).toInt ≤ 4; have k_0 : (2 : Int32).toInt = 2 := (by decide +kernel); omega), (by show (2 : Int32).toInt ≤ 4 * x_81.toInt - 4 * x_5.toInt; have k_0 : (2 : Int32).toInt = 2 := (by decide +kernel); omega), hi_5_2, (show AGN ((2 : Int32).toInt) r_122.toInt x_5.toInt x_81.toInt from (fun _ => hp_125))⟩ (Nat.le_of_ble_eq_true rfl) (Nat.le_of_ble_eq_true rfl) dX12_reads_273
                    exact loop_80 (Int.toNat ((mi 21).toInt - v_69.toInt) + 1) v_69 _ _ _ ⟨(by show x_5.toInt + 1 ≤ v_69.toInt; omega), (by show v_69.toInt ≤ (mi 21).toInt; omega), (LT_one (i := x_5) (v := r_59) (hp_62 (by omega)) (by omega) (by omega) (by omega) (by omega))⟩ (by omega) hw75 (lv_sub hl67 [0, 1] rfl)
                  · skip
                    refine lv_if_eq (pc := 92) (tgt := 155) E.1 E.2.1 dX12_reads_92 (by decide) (fun _ => ?_) (fun c_129 => absurd (meqE (a := 0) (b := 0) (by decide +kernel) (by decide +kernel) (by omega)) c_129)
                    refine lv_aload_n (pc := 155) E.1 E.2.1 dX12_reads_155 rfl (lv_at hl67 1 rfl) ?_
                    refine lv_iload_n (pc := 156) E.1 E.2.1 dX12_reads_156 rfl (lv_at hl67 0 rfl) ?_
                    refine cm_i (pc := 157) hw75 (rn_M (As := [.int r_59]) (rest := []) E hw75 (s_isDigit2 l D cI cJ _ M mr (upd (upd (upd (upd mi 22 v_69) 23 x_5) 24 1) 25 r_59) mf mg r_59) (gdV q_1682 q_1684 q_56 q_162 q_1685) hdV_X12_isDigit ⟨rfl, rfl⟩ ⟨(Nat.le_of_ble_eq_true rfl), (Nat.le_of_ble_eq_true rfl)⟩ ⟨(Nat.le_of_ble_eq_true rfl), (Nat.le_of_ble_eq_true rfl)⟩ 12 rfl rfl rfl rfl hl67.1 rfl (Nat.le_of_ble_eq_true rfl) dX12_reads_157) (fun r_131 u_130 H1 locs hp hw132 => ?_)
                    generalize H1 = H at hw132 ⊢
                    have hw133 : WD D A s.heap (MW cI cJ M mr (upd (upd (upd (upd mi 22 v_69) 23 x_5) 24 1) 25 r_59) mf mg) H locs := hw132
                    have hp_134 := hp
                    rcases hp_134 with ⟨rfl, ha_135, ha_136⟩ | rfl
                    · skip
                      have ha_135 : 48 ≤ r_59.toInt := ha_135
                      have ha_136 : r_59.toInt ≤ 57 := ha_136
                      refine lv_if_eq (pc := 160) (tgt := 260) E.1 E.2.1 dX12_reads_160 (by decide) (fun c_137 => absurd c_137 (mneE (a := 1) (b := 0) (by decide +kernel) (by decide +kernel) (by omega))) (fun _ => ?_)
                      refine lv_aload_n (pc := 163) E.1 E.2.1 dX12_reads_163 rfl (lv_at hl67 1 rfl) ?_
                      refine lv_iload_n (pc := 164) E.1 E.2.1 dX12_reads_164 rfl (lv_at hl67 0 rfl) ?_
                      refine lv_bipush (pc := 165) (v := 48) E.1 E.2.1 dX12_reads_165 (by decide +kernel) ?_
                      refine lv_isub (pc := 167) E.1 E.2.1 dX12_reads_167 ?_
                      refine lv_topi (fun v_138 ev_138 => ?_)
                      have hv_138 : v_138.toInt = r_59.toInt - 48 := by rw [ev_138]; exact subE rfl (by decide +kernel) (by omega)
                      refine x_put (pc := 168) (T := TX12) (N := 70) (ci := 12) (ws' := (MW cI cJ M mr (upd (upd (upd (upd mi 22 v_69) 23 x_5) 24 1) 25 v_138) mf mg)) E hw133 inX12 tyX12_ok nmX12 0 25 q_1424 rfl rfl (by decide) rfl rfl rfl rfl (Nat.le_of_ble_eq_true rfl) rfl dX12_reads_168 (fun H locs hw139 => ?_)
                      have loop_140 : ∀ (k : Nat) (x_141 : Int32) (x_142 : Int32) (H : Heap) (locs : List Loc) (ls : Array Slot), (x_5.toInt + 1 ≤ x_141.toInt) ∧ (x_141.toInt ≤ (mi 21).toInt) → (mi 21).toInt - x_141.toInt < (k : Int) → WD D A s.heap (MW cI cJ M mr (upd (upd (upd (upd mi 22 x_141) 23 x_5) 24 1) 25 x_142) mf mg) H locs → lv_has ls 2 [(1, .int r_59), (0, .ref M)] → W p l e ({ frames := 3, cells := 0, slots := 0, locals := 84 } : Room) s m ([.ref M] : List Value).toArray below meth c H locs 0 0 (MQ below (va_Qv (fun (u : Int32 × Int32 × Int32 × Int32) => (0 ≤ u.2.1.toInt) ∧ (u.2.1.toInt ≤ u.1.toInt) ∧ (u.1.toInt ≤ (mi 21).toInt) ∧ (0 ≤ u.2.2.1.toInt) ∧ (u.2.2.1.toInt ≤ 4) ∧ (u.2.2.1.toInt ≤ 4 * u.1.toInt - 4 * u.2.1.toInt) ∧ ((mi 22).toInt ≤ u.2.1.toInt) ∧ (AGN u.2.2.1.toInt u.2.2.2.toInt u.2.1.toInt u.1.toInt)) (fun u => QW D cI cJ A ((fun (u : Int32 × Int32 × Int32 × Int32) => (MW cI cJ M mr (upd (upd (upd (upd mi 22 u.1) 23 u.2.1) 24 u.2.2.1) 25 u.2.2.2) mf mg)) u)) A) ([.ref M] : List Value).toArray s 0 0 A) (F0 m 171 ls []) := by
                        intro k
                        induction k with
                        | zero =>
                          intro x_141 x_142 _ _ _ hinv hm
                          obtain ⟨hi_142_0, hi_142_1⟩ := hinv
                          exact absurd hm (by omega)
                        | succ k ih_143 =>
                          intro x_141 x_142 H locs ls hinv hm hw144 hl145
                          obtain ⟨hi_142_0, hi_142_1⟩ := hinv
                          refine lv_aload_n (pc := 171) E.1 E.2.1 dX12_reads_171 rfl (lv_at hl145 1 rfl) ?_
                          refine lv_aload_n (pc := 172) E.1 E.2.1 dX12_reads_172 rfl (lv_at hl145 1 rfl) ?_
                          refine lv_aload_n (pc := 173) E.1 E.2.1 dX12_reads_173 rfl (lv_at hl145 1 rfl) ?_
                          refine x_get (pc := 174) (T := TX12) (N := 70) (ci := 12) (v := .int x_141) E hw144 inX12 0 22 q_1421 rfl rfl (by decide) rfl rfl dX12_reads_174 ?_
                          refine cm_i (pc := 177) hw144 (rn_M (As := [.int x_141]) (rest := [.ref M]) E hw144 (s_raw3 l D cI cJ _ M mr (upd (upd (upd (upd mi 22 x_141) 23 x_5) 24 1) 25 x_142) mf mg x_141 (by show 0 ≤ x_141.toInt; omega) (by show 0 ≤ (mi 21).toInt ∧ (mi 21).toInt ≤ 400; omega)) (gdV q_1670 q_1672 q_53 q_162 q_1673) hdV_X12_raw ⟨rfl, rfl⟩ ⟨(Nat.le_of_ble_eq_true rfl), (Nat.le_of_ble_eq_true rfl)⟩ ⟨(Nat.le_of_ble_eq_true rfl), (Nat.le_of_ble_eq_true rfl)⟩ 12 rfl rfl rfl rfl hl145.1 rfl (Nat.le_of_ble_eq_true rfl) dX12_reads_177) (fun r_147 u_146 H1 locs hp hw148 => ?_)
                          generalize H1 = H at hw148 ⊢
                          have hw149 : WD D A s.heap (MW cI cJ M mr (upd (upd (upd (upd mi 22 x_141) 23 x_5) 24 1) 25 x_142) mf mg) H locs := hw148
                          obtain ⟨hp_150, hp_151⟩ := hp
                          have hp_150 : (x_141).toInt < (mi 21).toInt → r_147 = (mf 20) (x_141).toNatClampNeg := hp_150
                          rcases hp_151 with ⟨ha_152, ha_153⟩ | ha_154
                          · skip
                            have ha_152 : (mi 21).toInt ≤ x_141.toInt := ha_152
                            have ha_153 : r_147.toInt = (-1) := ha_153
                            refine cm_i (pc := 180) hw149 (rn_M (As := [.int r_147]) (rest := []) E hw149 (s_isDigit2 l D cI cJ _ M mr (upd (upd (upd (upd mi 22 x_141) 23 x_5) 24 1) 25 x_142) mf mg r_147) (gdV q_1682 q_1684 q_56 q_162 q_1685) hdV_X12_isDigit ⟨rfl, rfl⟩ ⟨(Nat.le_of_ble_eq_true rfl), (Nat.le_of_ble_eq_true rfl)⟩ ⟨(Nat.le_of_ble_eq_true rfl), (Nat.le_of_ble_eq_true rfl)⟩ 12 rfl rfl rfl rfl hl145.1 rfl (Nat.le_of_ble_eq_true rfl) dX12_reads_180) (fun r_156 u_155 H1 locs hp hw157 => ?_)
                            generalize H1 = H at hw157 ⊢
                            have hw158 : WD D A s.heap (MW cI cJ M mr (upd (upd (upd (upd mi 22 x_141) 23 x_5) 24 1) 25 x_142) mf mg) H locs := hw157
                            have hp_159 := hp
                            rcases hp_159 with ⟨rfl, ha_160, ha_161⟩ | rfl
                            · skip
                              have ha_160 : 48 ≤ r_147.toInt := ha_160
                              have ha_161 : r_147.toInt ≤ 57 := ha_161
                              exfalso; omega
                            · skip
                              refine lv_if_eq (pc := 183) (tgt := 239) E.1 E.2.1 dX12_reads_183 (by decide) (fun _ => ?_) (fun c_162 => absurd (meqE (a := 0) (b := 0) (by decide +kernel) (by decide +kernel) (by omega)) c_162)
                              refine lv_aload_n (pc := 239) E.1 E.2.1 dX12_reads_239 rfl (lv_at hl145 1 rfl) ?_
                              refine x_get (pc := 240) (T := TX12) (N := 70) (ci := 12) (v := .int x_141) E hw158 inX12 0 22 q_1421 rfl rfl (by decide) rfl rfl dX12_reads_240 ?_
                              refine lv_aload_n (pc := 243) E.1 E.2.1 dX12_reads_243 rfl (lv_at hl145 1 rfl) ?_
                              refine x_get (pc := 244) (T := TX12) (N := 70) (ci := 12) (v := .int x_5) E hw158 inX12 0 23 q_1422 rfl rfl (by decide) rfl rfl dX12_reads_244 ?_
                              refine lv_isub (pc := 247) E.1 E.2.1 dX12_reads_247 ?_
                              refine lv_topi (fun v_163 ev_163 => ?_)
                              have hv_163 : v_163.toInt = x_141.toInt - x_5.toInt := by rw [ev_163]; exact subE rfl rfl (by omega)
                              refine lv_iconst (pc := 248) (v := 5) E.1 E.2.1 dX12_reads_248 (by decide +kernel) ?_
                              refine lv_icmp_ge (pc := 249) (tgt := 273) E.1 E.2.1 dX12_reads_249 (by decide) (fun c_164 => ?_) (fun c_164 => ?_)
                              · skip
                                have hc_164 := leE (a := 5) (b := v_163.toInt) (by decide +kernel) rfl c_164
                                exact em_v (w1 := (fun (u : Int32 × Int32 × Int32 × Int32) => (MW cI cJ M mr (upd (upd (upd (upd mi 22 u.1) 23 u.2.1) 24 u.2.2.1) 25 u.2.2.2) mf mg))) E hr hlk (x_141, x_5, 1, x_142) hw158 ⟨hi_5_0, (by show x_5.toInt ≤ x_141.toInt; have k_0 : (1 : Int32).toInt = 1 := (by decide +kernel); omega), hi_142_1, (by show 0 ≤ (1 : Int32).toInt; have k_0 : (1 : Int32).toInt = 1 := (by decide +kernel); omega), (by show (1 : Int32).toInt ≤ 4; have k_0 : (1 : Int32).toInt = 1 := (by decide +kernel); omega), (by show (1 : Int32).toInt ≤ 4 * x_141.toInt - 4 * x_5.toInt; have k_0 : (1 : Int32).toInt = 1 := (by decide +kernel); omega), hi_5_2, (show AGN ((1 : Int32).toInt) x_142.toInt x_5.toInt x_141.toInt from (fun h => absurd h (by decide +kernel)))⟩ (Nat.le_of_ble_eq_true rfl) (Nat.le_of_ble_eq_true rfl) dX12_reads_273
                              · skip
                                have hc_164 := nleE (a := 5) (b := v_163.toInt) (by decide +kernel) rfl c_164
                                refine lv_aload_n (pc := 252) E.1 E.2.1 dX12_reads_252 rfl (lv_at hl145 1 rfl) ?_
                                refine lv_iconst (pc := 253) (v := 3) E.1 E.2.1 dX12_reads_253 (by decide +kernel) ?_
                                refine x_put (pc := 254) (T := TX12) (N := 70) (ci := 12) (ws' := (MW cI cJ M mr (upd (upd (upd (upd mi 22 x_141) 23 x_5) 24 3) 25 x_142) mf mg)) E hw158 inX12 tyX12_ok nmX12 0 24 q_1423 rfl rfl (by decide) rfl rfl rfl rfl (Nat.le_of_ble_eq_true rfl) rfl dX12_reads_254 (fun H locs hw165 => ?_)
                                refine lv_goto (pc := 257) (tgt := 273) E.1 E.2.1 dX12_reads_257 (by decide) ?_
                                exact em_v (w1 := (fun (u : Int32 × Int32 × Int32 × Int32) => (MW cI cJ M mr (upd (upd (upd (upd mi 22 u.1) 23 u.2.1) 24 u.2.2.1) 25 u.2.2.2) mf mg))) E hr hlk (x_141, x_5, 3, x_142) hw165 ⟨hi_5_0, (by show x_5.toInt ≤ x_141.toInt; have k_0 : (3 : Int32).toInt = 3 := (by decide +kernel); omega), hi_142_1, (by show 0 ≤ (3 : Int32).toInt; have k_0 : (3 : Int32).toInt = 3 := (by decide +kernel); omega), (by show (3 : Int32).toInt ≤ 4; have k_0 : (3 : Int32).toInt = 3 := (by decide +kernel); omega), (by show (3 : Int32).toInt ≤ 4 * x_141.toInt - 4 * x_5.toInt; have k_0 : (3 : Int32).toInt = 3 := (by decide +kernel); omega), hi_5_2, (show AGN ((3 : Int32).toInt) x_142.toInt x_5.toInt x_141.toInt from (fun h => absurd h (by decide +kernel)))⟩ (Nat.le_of_ble_eq_true rfl) (Nat.le_of_ble_eq_true rfl) dX12_reads_273
                          · skip
                            have ha_154 : x_141.toInt ≤ (mi 21).toInt - 1 := ha_154
                            refine cm_i (pc := 180) hw149 (rn_M (As := [.int r_147]) (rest := []) E hw149 (s_isDigit2 l D cI cJ _ M mr (upd (upd (upd (upd mi 22 x_141) 23 x_5) 24 1) 25 x_142) mf mg r_147) (gdV q_1682 q_1684 q_56 q_162 q_1685) hdV_X12_isDigit ⟨rfl, rfl⟩ ⟨(Nat.le_of_ble_eq_true rfl), (Nat.le_of_ble_eq_true rfl)⟩ ⟨(Nat.le_of_ble_eq_true rfl), (Nat.le_of_ble_eq_true rfl)⟩ 12 rfl rfl rfl rfl hl145.1 rfl (Nat.le_of_ble_eq_true rfl) dX12_reads_180) (fun r_167 u_166 H1 locs hp hw168 => ?_)
                            generalize H1 = H at hw168 ⊢
                            have hw169 : WD D A s.heap (MW cI cJ M mr (upd (upd (upd (upd mi 22 x_141) 23 x_5) 24 1) 25 x_142) mf mg) H locs := hw168
                            have hp_170 := hp
                            rcases hp_170 with ⟨rfl, ha_171, ha_172⟩ | rfl
                            · skip
                              have ha_171 : 48 ≤ r_147.toInt := ha_171
                              have ha_172 : r_147.toInt ≤ 57 := ha_172
                              refine lv_if_eq (pc := 183) (tgt := 239) E.1 E.2.1 dX12_reads_183 (by decide) (fun c_173 => absurd c_173 (mneE (a := 1) (b := 0) (by decide +kernel) (by decide +kernel) (by omega))) (fun _ => ?_)
                              refine lv_aload_n (pc := 186) E.1 E.2.1 dX12_reads_186 rfl (lv_at hl145 1 rfl) ?_
                              refine lv_aload_n (pc := 187) E.1 E.2.1 dX12_reads_187 rfl (lv_at hl145 1 rfl) ?_
                              refine x_get (pc := 188) (T := TX12) (N := 70) (ci := 12) (v := .int x_142) E hw169 inX12 0 25 q_1424 rfl rfl (by decide) rfl rfl dX12_reads_188 ?_
                              refine lv_sipush (pc := 191) (v := 10000) E.1 E.2.1 dX12_reads_191 (by decide +kernel) ?_
                              refine lv_icmp_ge (pc := 194) (tgt := 219) E.1 E.2.1 dX12_reads_194 (by decide) (fun c_174 => ?_) (fun c_174 => ?_)
                              · skip
                                have hc_174 := leE (a := 10000) (b := x_142.toInt) (by decide +kernel) rfl c_174
                                refine lv_aload_n (pc := 219) E.1 E.2.1 dX12_reads_219 rfl (lv_at hl145 1 rfl) ?_
                                refine x_get (pc := 220) (T := TX12) (N := 70) (ci := 12) (v := .int x_142) E hw169 inX12 0 25 q_1424 rfl rfl (by decide) rfl rfl dX12_reads_220 ?_
                                refine x_put (pc := 223) (T := TX12) (N := 70) (ci := 12) (ws' := (MW cI cJ M mr (upd (upd (upd (upd mi 22 x_141) 23 x_5) 24 1) 25 x_142) mf mg)) E hw169 inX12 tyX12_ok nmX12 0 25 q_1424 rfl rfl (by decide) rfl rfl rfl rfl (Nat.le_of_ble_eq_true rfl) rfl dX12_reads_223 (fun H locs hw175 => ?_)
                                refine lv_aload_n (pc := 226) E.1 E.2.1 dX12_reads_226 rfl (lv_at hl145 1 rfl) ?_
                                refine lv_aload_n (pc := 227) E.1 E.2.1 dX12_reads_227 rfl (lv_at hl145 1 rfl) ?_
                                refine x_get (pc := 228) (T := TX12) (N := 70) (ci := 12) (v := .int x_141) E hw175 inX12 0 22 q_1421 rfl rfl (by decide) rfl rfl dX12_reads_228 ?_
                                refine lv_iconst (pc := 231) (v := 1) E.1 E.2.1 dX12_reads_231 (by decide +kernel) ?_
                                refine lv_iadd (pc := 232) E.1 E.2.1 dX12_reads_232 ?_
                                refine lv_topi (fun v_176 ev_176 => ?_)
                                have hv_176 : v_176.toInt = x_141.toInt + 1 := by rw [ev_176]; exact addE rfl (by decide +kernel) (by omega)
                                refine x_put (pc := 233) (T := TX12) (N := 70) (ci := 12) (ws' := (MW cI cJ M mr (upd (upd (upd (upd mi 22 v_176) 23 x_5) 24 1) 25 x_142) mf mg)) E hw175 inX12 tyX12_ok nmX12 0 22 q_1421 rfl rfl (by decide) rfl rfl rfl rfl (Nat.le_of_ble_eq_true rfl) rfl dX12_reads_233 (fun H locs hw177 => ?_)
                                refine lv_goto (pc := 236) (tgt := 171) E.1 E.2.1 dX12_reads_236 (by decide) ?_
                                exact ih_143 v_176 x_142 _ _ _ ⟨(by show x_5.toInt + 1 ≤ v_176.toInt; omega), (by show v_176.toInt ≤ (mi 21).toInt; omega)⟩ (by omega) hw177 (lv_sub hl145 [0, 1] rfl)
                              · skip
                                have hc_174 := nleE (a := 10000) (b := x_142.toInt) (by decide +kernel) rfl c_174
                                refine lv_bipush (pc := 197) (v := 10) E.1 E.2.1 dX12_reads_197 (by decide +kernel) ?_
                                refine lv_aload_n (pc := 199) E.1 E.2.1 dX12_reads_199 rfl (lv_at hl145 1 rfl) ?_
                                refine x_get (pc := 200) (T := TX12) (N := 70) (ci := 12) (v := .int x_142) E hw169 inX12 0 25 q_1424 rfl rfl (by decide) rfl rfl dX12_reads_200 ?_
                                refine lv_imul (pc := 203) E.1 E.2.1 dX12_reads_203 ?_
                                refine lv_topi (fun v_178 ev_178 => ?_)
                                refine lv_aload_n (pc := 204) E.1 E.2.1 dX12_reads_204 rfl (lv_at hl145 1 rfl) ?_
                                refine lv_aload_n (pc := 205) E.1 E.2.1 dX12_reads_205 rfl (lv_at hl145 1 rfl) ?_
                                refine x_get (pc := 206) (T := TX12) (N := 70) (ci := 12) (v := .int x_141) E hw169 inX12 0 22 q_1421 rfl rfl (by decide) rfl rfl dX12_reads_206 ?_
                                refine cm_i (pc := 209) hw169 (rn_M (As := [.int x_141]) (rest := [.int v_178, .ref M]) E hw169 (s_raw3 l D cI cJ _ M mr (upd (upd (upd (upd mi 22 x_141) 23 x_5) 24 1) 25 x_142) mf mg x_141 (by show 0 ≤ x_141.toInt; omega) (by show 0 ≤ (mi 21).toInt ∧ (mi 21).toInt ≤ 400; omega)) (gdV q_1670 q_1672 q_53 q_162 q_1673) hdV_X12_raw ⟨rfl, rfl⟩ ⟨(Nat.le_of_ble_eq_true rfl), (Nat.le_of_ble_eq_true rfl)⟩ ⟨(Nat.le_of_ble_eq_true rfl), (Nat.le_of_ble_eq_true rfl)⟩ 12 rfl rfl rfl rfl hl145.1 rfl (Nat.le_of_ble_eq_true rfl) dX12_reads_209) (fun r_180 u_179 H1 locs hp hw181 => ?_)
                                generalize H1 = H at hw181 ⊢
                                have hw182 : WD D A s.heap (MW cI cJ M mr (upd (upd (upd (upd mi 22 x_141) 23 x_5) 24 1) 25 x_142) mf mg) H locs := hw181
                                obtain ⟨hp_183, hp_184⟩ := hp
                                have hp_183 : (x_141).toInt < (mi 21).toInt → r_180 = (mf 20) (x_141).toNatClampNeg := hp_183
                                rcases hp_184 with ⟨ha_185, ha_186⟩ | ha_187
                                · skip
                                  have ha_185 : (mi 21).toInt ≤ x_141.toInt := ha_185
                                  have ha_186 : r_180.toInt = (-1) := ha_186
                                  exfalso; omega
                                · skip
                                  have ha_187 : x_141.toInt ≤ (mi 21).toInt - 1 := ha_187
                                  refine lv_iadd (pc := 212) E.1 E.2.1 dX12_reads_212 ?_
                                  refine lv_topi (fun v_188 ev_188 => ?_)
                                  refine lv_bipush (pc := 213) (v := 48) E.1 E.2.1 dX12_reads_213 (by decide +kernel) ?_
                                  refine lv_isub (pc := 215) E.1 E.2.1 dX12_reads_215 ?_
                                  refine lv_topi (fun v_189 ev_189 => ?_)
                                  refine lv_goto (pc := 216) (tgt := 223) E.1 E.2.1 dX12_reads_216 (by decide) ?_
                                  refine x_put (pc := 223) (T := TX12) (N := 70) (ci := 12) (ws' := (MW cI cJ M mr (upd (upd (upd (upd mi 22 x_141) 23 x_5) 24 1) 25 v_189) mf mg)) E hw182 inX12 tyX12_ok nmX12 0 25 q_1424 rfl rfl (by decide) rfl rfl rfl rfl (Nat.le_of_ble_eq_true rfl) rfl dX12_reads_223 (fun H locs hw190 => ?_)
                                  refine lv_aload_n (pc := 226) E.1 E.2.1 dX12_reads_226 rfl (lv_at hl145 1 rfl) ?_
                                  refine lv_aload_n (pc := 227) E.1 E.2.1 dX12_reads_227 rfl (lv_at hl145 1 rfl) ?_
                                  refine x_get (pc := 228) (T := TX12) (N := 70) (ci := 12) (v := .int x_141) E hw190 inX12 0 22 q_1421 rfl rfl (by decide) rfl rfl dX12_reads_228 ?_
                                  refine lv_iconst (pc := 231) (v := 1) E.1 E.2.1 dX12_reads_231 (by decide +kernel) ?_
                                  refine lv_iadd (pc := 232) E.1 E.2.1 dX12_reads_232 ?_
                                  refine lv_topi (fun v_191 ev_191 => ?_)
                                  have hv_191 : v_191.toInt = x_141.toInt + 1 := by rw [ev_191]; exact addE rfl (by decide +kernel) (by omega)
                                  refine x_put (pc := 233) (T := TX12) (N := 70) (ci := 12) (ws' := (MW cI cJ M mr (upd (upd (upd (upd mi 22 v_191) 23 x_5) 24 1) 25 v_189) mf mg)) E hw190 inX12 tyX12_ok nmX12 0 22 q_1421 rfl rfl (by decide) rfl rfl rfl rfl (Nat.le_of_ble_eq_true rfl) rfl dX12_reads_233 (fun H locs hw192 => ?_)
                                  refine lv_goto (pc := 236) (tgt := 171) E.1 E.2.1 dX12_reads_236 (by decide) ?_
                                  exact ih_143 v_191 v_189 _ _ _ ⟨(by show x_5.toInt + 1 ≤ v_191.toInt; omega), (by show v_191.toInt ≤ (mi 21).toInt; omega)⟩ (by omega) hw192 (lv_sub hl145 [0, 1] rfl)
                            · skip
                              refine lv_if_eq (pc := 183) (tgt := 239) E.1 E.2.1 dX12_reads_183 (by decide) (fun _ => ?_) (fun c_193 => absurd (meqE (a := 0) (b := 0) (by decide +kernel) (by decide +kernel) (by omega)) c_193)
                              refine lv_aload_n (pc := 239) E.1 E.2.1 dX12_reads_239 rfl (lv_at hl145 1 rfl) ?_
                              refine x_get (pc := 240) (T := TX12) (N := 70) (ci := 12) (v := .int x_141) E hw169 inX12 0 22 q_1421 rfl rfl (by decide) rfl rfl dX12_reads_240 ?_
                              refine lv_aload_n (pc := 243) E.1 E.2.1 dX12_reads_243 rfl (lv_at hl145 1 rfl) ?_
                              refine x_get (pc := 244) (T := TX12) (N := 70) (ci := 12) (v := .int x_5) E hw169 inX12 0 23 q_1422 rfl rfl (by decide) rfl rfl dX12_reads_244 ?_
                              refine lv_isub (pc := 247) E.1 E.2.1 dX12_reads_247 ?_
                              refine lv_topi (fun v_194 ev_194 => ?_)
                              have hv_194 : v_194.toInt = x_141.toInt - x_5.toInt := by rw [ev_194]; exact subE rfl rfl (by omega)
                              refine lv_iconst (pc := 248) (v := 5) E.1 E.2.1 dX12_reads_248 (by decide +kernel) ?_
                              refine lv_icmp_ge (pc := 249) (tgt := 273) E.1 E.2.1 dX12_reads_249 (by decide) (fun c_195 => ?_) (fun c_195 => ?_)
                              · skip
                                have hc_195 := leE (a := 5) (b := v_194.toInt) (by decide +kernel) rfl c_195
                                exact em_v (w1 := (fun (u : Int32 × Int32 × Int32 × Int32) => (MW cI cJ M mr (upd (upd (upd (upd mi 22 u.1) 23 u.2.1) 24 u.2.2.1) 25 u.2.2.2) mf mg))) E hr hlk (x_141, x_5, 1, x_142) hw169 ⟨hi_5_0, (by show x_5.toInt ≤ x_141.toInt; have k_0 : (1 : Int32).toInt = 1 := (by decide +kernel); omega), hi_142_1, (by show 0 ≤ (1 : Int32).toInt; have k_0 : (1 : Int32).toInt = 1 := (by decide +kernel); omega), (by show (1 : Int32).toInt ≤ 4; have k_0 : (1 : Int32).toInt = 1 := (by decide +kernel); omega), (by show (1 : Int32).toInt ≤ 4 * x_141.toInt - 4 * x_5.toInt; have k_0 : (1 : Int32).toInt = 1 := (by decide +kernel); omega), hi_5_2, (show AGN ((1 : Int32).toInt) x_142.toInt x_5.toInt x_141.toInt from (fun h => absurd h (by decide +kernel)))⟩ (Nat.le_of_ble_eq_true rfl) (Nat.le_of_ble_eq_true rfl) dX12_reads_273
                              · skip
                                have hc_195 := nleE (a := 5) (b := v_194.toInt) (by decide +kernel) rfl c_195
                                refine lv_aload_n (pc := 252) E.1 E.2.1 dX12_reads_252 rfl (lv_at hl145 1 rfl) ?_
                                refine lv_iconst (pc := 253) (v := 3) E.1 E.2.1 dX12_reads_253 (by decide +kernel) ?_
                                refine x_put (pc := 254) (T := TX12) (N := 70) (ci := 12) (ws' := (MW cI cJ M mr (upd (upd (upd (upd mi 22 x_141) 23 x_5) 24 3) 25 x_142) mf mg)) E hw169 inX12 tyX12_ok nmX12 0 24 q_1423 rfl rfl (by decide) rfl rfl rfl rfl (Nat.le_of_ble_eq_true rfl) rfl dX12_reads_254 (fun H locs hw196 => ?_)
                                refine lv_goto (pc := 257) (tgt := 273) E.1 E.2.1 dX12_reads_257 (by decide) ?_
                                exact em_v (w1 := (fun (u : Int32 × Int32 × Int32 × Int32) => (MW cI cJ M mr (upd (upd (upd (upd mi 22 u.1) 23 u.2.1) 24 u.2.2.1) 25 u.2.2.2) mf mg))) E hr hlk (x_141, x_5, 3, x_142) hw196 ⟨hi_5_0, (by show x_5.toInt ≤ x_141.toInt; have k_0 : (3 : Int32).toInt = 3 := (by decide +kernel); omega), hi_142_1, (by show 0 ≤ (3 : Int32).toInt; have k_0 : (3 : Int32).toInt = 3 := (by decide +kernel); omega), (by show (3 : Int32).toInt ≤ 4; have k_0 : (3 : Int32).toInt = 3 := (by decide +kernel); omega), (by show (3 : Int32).toInt ≤ 4 * x_141.toInt - 4 * x_5.toInt; have k_0 : (3 : Int32).toInt = 3 := (by decide +kernel); omega), hi_5_2, (show AGN ((3 : Int32).toInt) x_142.toInt x_5.toInt x_141.toInt from (fun h => absurd h (by decide +kernel)))⟩ (Nat.le_of_ble_eq_true rfl) (Nat.le_of_ble_eq_true rfl) dX12_reads_273
                      exact loop_140 (Int.toNat ((mi 21).toInt - v_69.toInt) + 1) v_69 v_138 _ _ _ ⟨(by show x_5.toInt + 1 ≤ v_69.toInt; omega), (by show v_69.toInt ≤ (mi 21).toInt; omega)⟩ (by omega) hw139 (lv_sub hl67 [0, 1] rfl)
                    · skip
                      refine lv_if_eq (pc := 160) (tgt := 260) E.1 E.2.1 dX12_reads_160 (by decide) (fun _ => ?_) (fun c_197 => absurd (meqE (a := 0) (b := 0) (by decide +kernel) (by decide +kernel) (by omega)) c_197)
                      refine lv_aload_n (pc := 260) E.1 E.2.1 dX12_reads_260 rfl (lv_at hl67 1 rfl) ?_
                      refine lv_iload_n (pc := 261) E.1 E.2.1 dX12_reads_261 rfl (lv_at hl67 0 rfl) ?_
                      refine cm_i (pc := 262) hw133 (rn_M (As := [.int r_59]) (rest := []) E hw133 (s_isMarkSign l D cI cJ _ M mr (upd (upd (upd (upd mi 22 v_69) 23 x_5) 24 1) 25 r_59) mf mg r_59) (gdV q_1686 q_1688 q_57 q_162 q_1689) hdV_X12_isMarkSign ⟨rfl, rfl⟩ ⟨(Nat.le_of_ble_eq_true rfl), (Nat.le_of_ble_eq_true rfl)⟩ ⟨(Nat.le_of_ble_eq_true rfl), (Nat.le_of_ble_eq_true rfl)⟩ 12 rfl rfl rfl rfl hl67.1 rfl (Nat.le_of_ble_eq_true rfl) dX12_reads_262) (fun r_199 u_198 H1 locs hp hw200 => ?_)
                      generalize H1 = H at hw200 ⊢
                      have hw201 : WD D A s.heap (MW cI cJ M mr (upd (upd (upd (upd mi 22 v_69) 23 x_5) 24 1) 25 r_59) mf mg) H locs := hw200
                      have hp_202 := hp
                      have hp_202 : 0 ≤ r_199.toInt ∧ r_199.toInt ≤ 1 := hp_202
                      refine lv_if_eq (pc := 265) (tgt := 273) E.1 E.2.1 dX12_reads_265 (by decide) (fun c_203 => ?_) (fun c_203 => ?_)
                      · skip
                        have hc_203 := eqE (a := r_199.toInt) (b := 0) rfl (by decide +kernel) c_203
                        exact em_v (w1 := (fun (u : Int32 × Int32 × Int32 × Int32) => (MW cI cJ M mr (upd (upd (upd (upd mi 22 u.1) 23 u.2.1) 24 u.2.2.1) 25 u.2.2.2) mf mg))) E hr hlk (v_69, x_5, 1, r_59) hw201 ⟨hi_5_0, (by show x_5.toInt ≤ v_69.toInt; have k_0 : (1 : Int32).toInt = 1 := (by decide +kernel); omega), (by show v_69.toInt ≤ (mi 21).toInt; have k_0 : (1 : Int32).toInt = 1 := (by decide +kernel); omega), (by show 0 ≤ (1 : Int32).toInt; have k_0 : (1 : Int32).toInt = 1 := (by decide +kernel); omega), (by show (1 : Int32).toInt ≤ 4; have k_0 : (1 : Int32).toInt = 1 := (by decide +kernel); omega), (by show (1 : Int32).toInt ≤ 4 * v_69.toInt - 4 * x_5.toInt; have k_0 : (1 : Int32).toInt = 1 := (by decide +kernel); omega), hi_5_2, (show AGN ((1 : Int32).toInt) r_59.toInt x_5.toInt v_69.toInt from (fun h => absurd h (by decide +kernel)))⟩ (Nat.le_of_ble_eq_true rfl) (Nat.le_of_ble_eq_true rfl) dX12_reads_273
                      · skip
                        have hc_203 := neE (a := r_199.toInt) (b := 0) rfl (by decide +kernel) c_203
                        refine lv_aload_n (pc := 268) E.1 E.2.1 dX12_reads_268 rfl (lv_at hl67 1 rfl) ?_
                        refine lv_iconst (pc := 269) (v := 4) E.1 E.2.1 dX12_reads_269 (by decide +kernel) ?_
                        refine x_put (pc := 270) (T := TX12) (N := 70) (ci := 12) (ws' := (MW cI cJ M mr (upd (upd (upd (upd mi 22 v_69) 23 x_5) 24 4) 25 r_59) mf mg)) E hw201 inX12 tyX12_ok nmX12 0 24 q_1423 rfl rfl (by decide) rfl rfl rfl rfl (Nat.le_of_ble_eq_true rfl) rfl dX12_reads_270 (fun H locs hw204 => ?_)
                        exact em_v (w1 := (fun (u : Int32 × Int32 × Int32 × Int32) => (MW cI cJ M mr (upd (upd (upd (upd mi 22 u.1) 23 u.2.1) 24 u.2.2.1) 25 u.2.2.2) mf mg))) E hr hlk (v_69, x_5, 4, r_59) hw204 ⟨hi_5_0, (by show x_5.toInt ≤ v_69.toInt; have k_0 : (4 : Int32).toInt = 4 := (by decide +kernel); omega), (by show v_69.toInt ≤ (mi 21).toInt; have k_0 : (4 : Int32).toInt = 4 := (by decide +kernel); omega), (by show 0 ≤ (4 : Int32).toInt; have k_0 : (4 : Int32).toInt = 4 := (by decide +kernel); omega), (by show (4 : Int32).toInt ≤ 4; have k_0 : (4 : Int32).toInt = 4 := (by decide +kernel); omega), (by show (4 : Int32).toInt ≤ 4 * v_69.toInt - 4 * x_5.toInt; have k_0 : (4 : Int32).toInt = 4 := (by decide +kernel); omega), hi_5_2, (show AGN ((4 : Int32).toInt) r_59.toInt x_5.toInt v_69.toInt from (fun h => absurd h (by decide +kernel)))⟩ (Nat.le_of_ble_eq_true rfl) (Nat.le_of_ble_eq_true rfl) dX12_reads_273
                · skip
                  have hc_68 := eqE (a := r_59.toInt) (b := (-1)) rfl (by decide +kernel) c_68
                  refine lv_aload_n (pc := 66) E.1 E.2.1 dX12_reads_66 rfl (lv_at hl67 1 rfl) ?_
                  refine lv_iconst (pc := 67) (v := 0) E.1 E.2.1 dX12_reads_67 (by decide +kernel) ?_
                  refine x_put (pc := 68) (T := TX12) (N := 70) (ci := 12) (ws' := (MW cI cJ M mr (upd (upd (upd mi 22 x_5) 23 x_5) 24 0) mf mg)) E hw61 inX12 tyX12_ok nmX12 0 24 q_1423 rfl rfl (by decide) rfl rfl rfl rfl (Nat.le_of_ble_eq_true rfl) rfl dX12_reads_68 (fun H locs hw205 => ?_)
                  exact em_v (w1 := (fun (u : Int32 × Int32 × Int32 × Int32) => (MW cI cJ M mr (upd (upd (upd (upd mi 22 u.1) 23 u.2.1) 24 u.2.2.1) 25 u.2.2.2) mf mg))) E hr hlk (x_5, x_5, 0, (mi 25)) hw205 ⟨hi_5_0, (by show x_5.toInt ≤ x_5.toInt; have k_0 : (0 : Int32).toInt = 0 := (by decide +kernel); omega), hi_5_1, (by show 0 ≤ (0 : Int32).toInt; have k_0 : (0 : Int32).toInt = 0 := (by decide +kernel); omega), (by show (0 : Int32).toInt ≤ 4; have k_0 : (0 : Int32).toInt = 0 := (by decide +kernel); omega), (by show (0 : Int32).toInt ≤ 4 * x_5.toInt - 4 * x_5.toInt; have k_0 : (0 : Int32).toInt = 0 := (by decide +kernel); omega), hi_5_2, (show AGN ((0 : Int32).toInt) ((mi 25).toInt) x_5.toInt x_5.toInt from (fun h => absurd h (by decide +kernel)))⟩ (Nat.le_of_ble_eq_true rfl) (Nat.le_of_ble_eq_true rfl) dX12_reads_71
            · skip
              have hc_55 := eqE (a := r_47.toInt) (b := 10) rfl (by decide +kernel) c_55
              refine lv_aload_n (pc := 26) E.1 E.2.1 dX12_reads_26 rfl (lv_at hl8 0 rfl) ?_
              refine lv_aload_n (pc := 27) E.1 E.2.1 dX12_reads_27 rfl (lv_at hl8 0 rfl) ?_
              refine x_get (pc := 28) (T := TX12) (N := 70) (ci := 12) (v := .int x_5) E hw49 inX12 0 22 q_1421 rfl rfl (by decide) rfl rfl dX12_reads_28 ?_
              refine lv_iconst (pc := 31) (v := 1) E.1 E.2.1 dX12_reads_31 (by decide +kernel) ?_
              refine lv_iadd (pc := 32) E.1 E.2.1 dX12_reads_32 ?_
              refine lv_topi (fun v_206 ev_206 => ?_)
              have hv_206 : v_206.toInt = x_5.toInt + 1 := by rw [ev_206]; exact addE rfl (by decide +kernel) (by omega)
              refine x_put (pc := 33) (T := TX12) (N := 70) (ci := 12) (ws' := (MW cI cJ M mr (upd mi 22 v_206) mf mg)) E hw49 inX12 tyX12_ok nmX12 0 22 q_1421 rfl rfl (by decide) rfl rfl rfl rfl (Nat.le_of_ble_eq_true rfl) rfl dX12_reads_33 (fun H locs hw207 => ?_)
              refine lv_goto (pc := 36) (tgt := 0) E.1 E.2.1 dX12_reads_36 (by decide) ?_
              exact ih_6 v_206 _ _ _ ⟨(by show 0 ≤ v_206.toInt; omega), (by show v_206.toInt ≤ (mi 21).toInt; omega), (by show (mi 22).toInt ≤ v_206.toInt; omega)⟩ (by omega) hw207 (lv_sub hl8 [0] rfl)
  exact loop_4 (Int.toNat ((mi 21).toInt - (mi 22).toInt) + 1) (mi 22) _ _ _ ⟨h0, h1, (by show (mi 22).toInt ≤ (mi 22).toInt; omega)⟩ (by omega) hw1 (lv_sub hl3 [0] rfl)

set_option maxHeartbeats 4000000 in
set_option maxRecDepth 100000 in
theorem s_readNumber (l : Launch) (D : va_G) (cI cJ : ClassId) (sz M : Nat) (mr : Nat → Nat) (mi : Nat → Int32) (mf : Nat → Nat → Int32) (mg : Nat → Nat → Int64) (z_low : Int32) (z_high : Int32) (h0 : 0 ≤ (mi 23).toInt) (h1 : (mi 23).toInt ≤ (mi 22).toInt) (h2 : (mi 22).toInt ≤ (mi 21).toInt) (h3 : (mi 21).toInt ≤ 400) (h4 : 0 ≤ (mi 24).toInt) (h5 : (mi 24).toInt ≤ 4) (h6 : (mi 24).toInt ≤ 4 * (mi 22).toInt - 4 * (mi 23).toInt) (h7 : ((mf 26) 153).toInt = 32) (lf_words : (∀ j : Nat, j < 154 → (mf 26) j = w0 j)) (lf_again : AGN ((mi 24).toInt) ((mi 25).toInt) ((mi 23).toInt) ((mi 22).toInt)) : Met l yX12_readNumber (Cond.code yX12_readNumber cX12_readNumber 4 (some .int) :: GW) ({ frames := 4, cells := 0, slots := 0, locals := 105 } : Room) (va_Pc [.ref M, .int z_low, .int z_high] (PW D cI cJ sz (MW cI cJ M mr mi mf mg) xT)) (va_Qi (fun (r : Int32) (u : Int32 × Int32 × Int32 × Int32 × Int32 × Int32) => (0 ≤ u.2.1.toInt) ∧ (u.2.1.toInt ≤ u.1.toInt) ∧ (u.1.toInt ≤ (mi 21).toInt) ∧ (0 ≤ u.2.2.1.toInt) ∧ (u.2.2.1.toInt ≤ 4) ∧ (u.2.2.1.toInt ≤ 4 * u.1.toInt - 4 * u.2.1.toInt) ∧ (AGN u.2.2.1.toInt u.2.2.2.1.toInt u.2.1.toInt u.1.toInt) ∧ ((r = (-1)) ∨ (z_low.toInt ≤ r.toInt ∧ r.toInt ≤ z_high.toInt ∧ (mi 23).toInt + 1 ≤ u.2.1.toInt))) (fun u => QW D cI cJ (va_A (MW cI cJ M mr mi mf mg) sz) ((fun (u : Int32 × Int32 × Int32 × Int32 × Int32 × Int32) => (MW cI cJ M mr (upd (upd (upd (upd (upd (upd mi 22 u.1) 23 u.2.1) 24 u.2.2.1) 25 u.2.2.2.1) 38 u.2.2.2.2.1) 39 u.2.2.2.2.2) mf mg)) u)) (va_A (MW cI cJ M mr mi mf mg) sz)) 0 0 (va_A (MW cI cJ M mr mi mf mg) sz) := by
  refine mk_met (y := yX12_readNumber) (bytes := cX12_readNumber) (maxL := 4) (avs := [.ref M, .int z_low, .int z_high]) (WS := (MW cI cJ M mr mi mf mg)) (Qf := fun A => va_Qi (fun (r : Int32) (u : Int32 × Int32 × Int32 × Int32 × Int32 × Int32) => (0 ≤ u.2.1.toInt) ∧ (u.2.1.toInt ≤ u.1.toInt) ∧ (u.1.toInt ≤ (mi 21).toInt) ∧ (0 ≤ u.2.2.1.toInt) ∧ (u.2.2.1.toInt ≤ 4) ∧ (u.2.2.1.toInt ≤ 4 * u.1.toInt - 4 * u.2.1.toInt) ∧ (AGN u.2.2.1.toInt u.2.2.2.1.toInt u.2.1.toInt u.1.toInt) ∧ ((r = (-1)) ∨ (z_low.toInt ≤ r.toInt ∧ r.toInt ≤ z_high.toInt ∧ (mi 23).toInt + 1 ≤ u.2.1.toInt))) (fun u => QW D cI cJ A ((fun (u : Int32 × Int32 × Int32 × Int32 × Int32 × Int32) => (MW cI cJ M mr (upd (upd (upd (upd (upd (upd mi 22 u.1) 23 u.2.1) 24 u.2.2.1) 25 u.2.2.2.1) 38 u.2.2.2.2.1) 39 u.2.2.2.2.2) mf mg)) u)) A) (by decide) (Nat.le_of_ble_eq_true rfl) ?_
  intro p e s m below meth c A ls E hr hlk hnm hX hw1 hl2
  have hl3 : lv_has ls 4 [(0, .ref M), (1, .int z_low), (2, .int z_high)] := hl2
  refine lv_aload_n (pc := 0) E.1 E.2.1 dX12_readNumber_0 rfl (lv_at hl3 0 rfl) ?_
  refine x_get (pc := 1) (T := TX12) (N := 70) (ci := 12) (v := .int (mi 24)) E hw1 inX12 0 24 q_1423 rfl rfl (by decide) rfl rfl dX12_readNumber_1 ?_
  refine lv_iconst (pc := 4) (v := 3) E.1 E.2.1 dX12_readNumber_4 (by decide +kernel) ?_
  refine lv_icmp_eq (pc := 5) (tgt := 14) E.1 E.2.1 dX12_readNumber_5 (by decide) (fun c_4 => ?_) (fun c_4 => ?_)
  · skip
    have hc_4 := eqE (a := (mi 24).toInt) (b := 3) rfl (by decide +kernel) c_4
    refine lv_aload_n (pc := 14) E.1 E.2.1 dX12_readNumber_14 rfl (lv_at hl3 0 rfl) ?_
    refine lv_aload_n (pc := 15) E.1 E.2.1 dX12_readNumber_15 rfl (lv_at hl3 0 rfl) ?_
    refine x_get (pc := 16) (T := TX12) (N := 70) (ci := 12) (v := .int (mi 25)) E hw1 inX12 0 25 q_1424 rfl rfl (by decide) rfl rfl dX12_readNumber_16 ?_
    refine lv_iload_n (pc := 19) E.1 E.2.1 dX12_readNumber_19 rfl (lv_at hl3 1 rfl) ?_
    refine lv_iload_n (pc := 20) E.1 E.2.1 dX12_readNumber_20 rfl (lv_at hl3 2 rfl) ?_
    refine cm_i (pc := 21) hw1 (rn_M (As := [.int (mi 25), .int z_low, .int z_high]) (rest := []) E hw1 (s_isIn l D cI cJ _ M mr mi mf mg (mi 25) z_low z_high) (gdV q_1622 q_1624 q_46 q_162 q_1625) hdV_X12_isIn ⟨rfl, rfl⟩ ⟨(Nat.le_of_ble_eq_true rfl), (Nat.le_of_ble_eq_true rfl)⟩ ⟨(Nat.le_of_ble_eq_true rfl), (Nat.le_of_ble_eq_true rfl)⟩ 12 rfl rfl rfl rfl hl3.1 rfl (Nat.le_of_ble_eq_true rfl) dX12_readNumber_21) (fun r_6 u_5 H1 locs hp hw7 => ?_)
    generalize H1 = H at hw7 ⊢
    have hw8 : WD D A s.heap (MW cI cJ M mr mi mf mg) H locs := hw7
    have hp_9 := hp
    rcases hp_9 with ⟨rfl, ha_10⟩ | ⟨rfl, ha_11⟩ | ⟨rfl, ha_12, ha_13⟩
    · skip
      have ha_10 : (mi 25).toInt < z_low.toInt := ha_10
      refine lv_if_ne (pc := 24) (tgt := 33) E.1 E.2.1 dX12_readNumber_24 (by decide) (fun c_14 => absurd (meqE (a := 0) (b := 0) (by decide +kernel) (by decide +kernel) (by omega)) c_14) (fun _ => ?_)
      refine lv_aload_n (pc := 27) E.1 E.2.1 dX12_readNumber_27 rfl (lv_at hl3 0 rfl) ?_
      refine lv_iconst (pc := 28) (v := 2) E.1 E.2.1 dX12_readNumber_28 (by decide +kernel) ?_
      refine cm_i (pc := 29) hw8 (rn_M (As := [.int 2]) (rest := []) E hw8 (s_errs2 l D cI cJ _ M mr mi mf mg 2) (gdV q_1698 q_1700 q_60 q_162 q_1701) hdV_X12_errs ⟨rfl, rfl⟩ ⟨(Nat.le_of_ble_eq_true rfl), (Nat.le_of_ble_eq_true rfl)⟩ ⟨(Nat.le_of_ble_eq_true rfl), (Nat.le_of_ble_eq_true rfl)⟩ 12 rfl rfl rfl rfl hl3.1 rfl (Nat.le_of_ble_eq_true rfl) dX12_readNumber_29) (fun r_16 u_15 H1 locs hp hw17 => ?_)
      obtain ⟨nreadFault_18, nreadPlace_19⟩ := u_15
      generalize H1 = H at hw17 ⊢
      have hw20 : WD D A s.heap (MW cI cJ M mr (upd (upd mi 38 nreadFault_18) 39 nreadPlace_19) mf mg) H locs := hw17
      have hp_21 := hp
      rcases hp_21 with rfl
      · skip
        exact em_i (w1 := (fun (u : Int32 × Int32 × Int32 × Int32 × Int32 × Int32) => (MW cI cJ M mr (upd (upd (upd (upd (upd (upd mi 22 u.1) 23 u.2.1) 24 u.2.2.1) 25 u.2.2.2.1) 38 u.2.2.2.2.1) 39 u.2.2.2.2.2) mf mg))) E hr hlk ((mi 22), (mi 23), (mi 24), (mi 25), nreadFault_18, nreadPlace_19) hw20 ⟨h0, h1, h2, h4, h5, h6, lf_again, (Or.inl rfl)⟩ (Nat.le_of_ble_eq_true rfl) (Nat.le_of_ble_eq_true rfl) dX12_readNumber_32
    · skip
      have ha_11 : z_high.toInt < (mi 25).toInt := ha_11
      refine lv_if_ne (pc := 24) (tgt := 33) E.1 E.2.1 dX12_readNumber_24 (by decide) (fun c_22 => absurd (meqE (a := 0) (b := 0) (by decide +kernel) (by decide +kernel) (by omega)) c_22) (fun _ => ?_)
      refine lv_aload_n (pc := 27) E.1 E.2.1 dX12_readNumber_27 rfl (lv_at hl3 0 rfl) ?_
      refine lv_iconst (pc := 28) (v := 2) E.1 E.2.1 dX12_readNumber_28 (by decide +kernel) ?_
      refine cm_i (pc := 29) hw8 (rn_M (As := [.int 2]) (rest := []) E hw8 (s_errs2 l D cI cJ _ M mr mi mf mg 2) (gdV q_1698 q_1700 q_60 q_162 q_1701) hdV_X12_errs ⟨rfl, rfl⟩ ⟨(Nat.le_of_ble_eq_true rfl), (Nat.le_of_ble_eq_true rfl)⟩ ⟨(Nat.le_of_ble_eq_true rfl), (Nat.le_of_ble_eq_true rfl)⟩ 12 rfl rfl rfl rfl hl3.1 rfl (Nat.le_of_ble_eq_true rfl) dX12_readNumber_29) (fun r_24 u_23 H1 locs hp hw25 => ?_)
      obtain ⟨nreadFault_26, nreadPlace_27⟩ := u_23
      generalize H1 = H at hw25 ⊢
      have hw28 : WD D A s.heap (MW cI cJ M mr (upd (upd mi 38 nreadFault_26) 39 nreadPlace_27) mf mg) H locs := hw25
      have hp_29 := hp
      rcases hp_29 with rfl
      · skip
        exact em_i (w1 := (fun (u : Int32 × Int32 × Int32 × Int32 × Int32 × Int32) => (MW cI cJ M mr (upd (upd (upd (upd (upd (upd mi 22 u.1) 23 u.2.1) 24 u.2.2.1) 25 u.2.2.2.1) 38 u.2.2.2.2.1) 39 u.2.2.2.2.2) mf mg))) E hr hlk ((mi 22), (mi 23), (mi 24), (mi 25), nreadFault_26, nreadPlace_27) hw28 ⟨h0, h1, h2, h4, h5, h6, lf_again, (Or.inl rfl)⟩ (Nat.le_of_ble_eq_true rfl) (Nat.le_of_ble_eq_true rfl) dX12_readNumber_32
    · skip
      have ha_12 : z_low.toInt ≤ (mi 25).toInt := ha_12
      have ha_13 : (mi 25).toInt ≤ z_high.toInt := ha_13
      refine lv_if_ne (pc := 24) (tgt := 33) E.1 E.2.1 dX12_readNumber_24 (by decide) (fun _ => ?_) (fun c_30 => absurd c_30 (mneE (a := 1) (b := 0) (by decide +kernel) (by decide +kernel) (by omega)))
      refine lv_aload_n (pc := 33) E.1 E.2.1 dX12_readNumber_33 rfl (lv_at hl3 0 rfl) ?_
      refine x_get (pc := 34) (T := TX12) (N := 70) (ci := 12) (v := .int (mi 25)) E hw8 inX12 0 25 q_1424 rfl rfl (by decide) rfl rfl dX12_readNumber_34 ?_
      refine lv_istore_n (pc := 37) (lv' := [(3, .int (mi 25)), (0, .ref M), (1, .int z_low), (2, .int z_high)]) E.1 E.2.1 dX12_readNumber_37 rfl hl3 (by decide) rfl (fun ls hl31 => ?_)
      refine lv_aload_n (pc := 38) E.1 E.2.1 dX12_readNumber_38 rfl (lv_at hl31 1 rfl) ?_
      refine cm_v (pc := 39) hw8 (rn_M (As := []) (rest := []) E hw8 (s_reads2 l D cI cJ _ M mr mi mf mg (by show 0 ≤ (mi 22).toInt; omega) h2 h3 h7 (show (∀ j : Nat, j < 154 → (mf 26) j = w0 j) from lf_words)) (gdV q_1666 q_1668 q_52 q_162 q_1669) hdV_X12_reads ⟨rfl, rfl⟩ ⟨(Nat.le_of_ble_eq_true rfl), (Nat.le_of_ble_eq_true rfl)⟩ ⟨(Nat.le_of_ble_eq_true rfl), (Nat.le_of_ble_eq_true rfl)⟩ 12 rfl rfl rfl rfl hl31.1 rfl (Nat.le_of_ble_eq_true rfl) dX12_readNumber_39) (fun u_32 H1 locs hp hw34 => ?_)
      obtain ⟨nspot_35, nfrom_36, ntoken_37, nvalue_38⟩ := u_32
      generalize H1 = H at hw34 ⊢
      have hw39 : WD D A s.heap (MW cI cJ M mr (upd (upd (upd (upd mi 22 nspot_35) 23 nfrom_36) 24 ntoken_37) 25 nvalue_38) mf mg) H locs := hw34
      obtain ⟨hp_40, hp_41, hp_42, hp_43, hp_44, hp_45, hp_46, hp_47⟩ := hp
      have hp_40 : 0 ≤ nfrom_36.toInt := hp_40
      have hp_41 : nfrom_36.toInt ≤ nspot_35.toInt := hp_41
      have hp_42 : nspot_35.toInt ≤ (mi 21).toInt := hp_42
      have hp_43 : 0 ≤ ntoken_37.toInt := hp_43
      have hp_44 : ntoken_37.toInt ≤ 4 := hp_44
      have hp_45 : ntoken_37.toInt ≤ 4 * nspot_35.toInt - 4 * nfrom_36.toInt := hp_45
      have hp_46 : (mi 22).toInt ≤ nfrom_36.toInt := hp_46
      have hp_47 : AGN ntoken_37.toInt nvalue_38.toInt nfrom_36.toInt nspot_35.toInt := hp_47
      refine lv_iload_n (pc := 42) E.1 E.2.1 dX12_readNumber_42 rfl (lv_at hl31 0 rfl) ?_
      exact em_i (w1 := (fun (u : Int32 × Int32 × Int32 × Int32 × Int32 × Int32) => (MW cI cJ M mr (upd (upd (upd (upd (upd (upd mi 22 u.1) 23 u.2.1) 24 u.2.2.1) 25 u.2.2.2.1) 38 u.2.2.2.2.1) 39 u.2.2.2.2.2) mf mg))) E hr hlk (nspot_35, nfrom_36, ntoken_37, nvalue_38, (mi 38), (mi 39)) hw39 ⟨hp_40, hp_41, hp_42, hp_43, hp_44, hp_45, hp_47, (Or.inr (⟨(by show z_low.toInt ≤ (mi 25).toInt; omega), (by show (mi 25).toInt ≤ z_high.toInt; omega), (by show (mi 23).toInt + 1 ≤ nfrom_36.toInt; omega)⟩))⟩ (Nat.le_of_ble_eq_true rfl) (Nat.le_of_ble_eq_true rfl) dX12_readNumber_43
  · skip
    have hc_4 := neE (a := (mi 24).toInt) (b := 3) rfl (by decide +kernel) c_4
    refine lv_aload_n (pc := 8) E.1 E.2.1 dX12_readNumber_8 rfl (lv_at hl3 0 rfl) ?_
    refine lv_iconst (pc := 9) (v := 1) E.1 E.2.1 dX12_readNumber_9 (by decide +kernel) ?_
    refine cm_i (pc := 10) hw1 (rn_M (As := [.int 1]) (rest := []) E hw1 (s_errs2 l D cI cJ _ M mr mi mf mg 1) (gdV q_1698 q_1700 q_60 q_162 q_1701) hdV_X12_errs ⟨rfl, rfl⟩ ⟨(Nat.le_of_ble_eq_true rfl), (Nat.le_of_ble_eq_true rfl)⟩ ⟨(Nat.le_of_ble_eq_true rfl), (Nat.le_of_ble_eq_true rfl)⟩ 12 rfl rfl rfl rfl hl3.1 rfl (Nat.le_of_ble_eq_true rfl) dX12_readNumber_10) (fun r_49 u_48 H1 locs hp hw50 => ?_)
    obtain ⟨nreadFault_51, nreadPlace_52⟩ := u_48
    generalize H1 = H at hw50 ⊢
    have hw53 : WD D A s.heap (MW cI cJ M mr (upd (upd mi 38 nreadFault_51) 39 nreadPlace_52) mf mg) H locs := hw50
    have hp_54 := hp
    rcases hp_54 with rfl
    · skip
      exact em_i (w1 := (fun (u : Int32 × Int32 × Int32 × Int32 × Int32 × Int32) => (MW cI cJ M mr (upd (upd (upd (upd (upd (upd mi 22 u.1) 23 u.2.1) 24 u.2.2.1) 25 u.2.2.2.1) 38 u.2.2.2.2.1) 39 u.2.2.2.2.2) mf mg))) E hr hlk ((mi 22), (mi 23), (mi 24), (mi 25), nreadFault_51, nreadPlace_52) hw53 ⟨h0, h1, h2, h4, h5, h6, lf_again, (Or.inl rfl)⟩ (Nat.le_of_ble_eq_true rfl) (Nat.le_of_ble_eq_true rfl) dX12_readNumber_13

set_option maxHeartbeats 4000000 in
set_option maxRecDepth 100000 in
theorem s_readWord (l : Launch) (D : va_G) (cI cJ : ClassId) (sz M : Nat) (mr : Nat → Nat) (mi : Nat → Int32) (mf : Nat → Nat → Int32) (mg : Nat → Nat → Int64) (z_w : Int32) (h0 : 0 ≤ (mi 23).toInt) (h1 : (mi 23).toInt ≤ (mi 22).toInt) (h2 : (mi 22).toInt ≤ (mi 21).toInt) (h3 : (mi 21).toInt ≤ 400) (h4 : 0 ≤ (mi 24).toInt) (h5 : (mi 24).toInt ≤ 4) (h6 : (mi 24).toInt ≤ 4 * (mi 22).toInt - 4 * (mi 23).toInt) (h7 : ((mf 26) 153).toInt = 32) (lf_words : (∀ j : Nat, j < 154 → (mf 26) j = w0 j)) (lf_again : AGN ((mi 24).toInt) ((mi 25).toInt) ((mi 23).toInt) ((mi 22).toInt)) : Met l yX12_readWord (Cond.code yX12_readWord cX12_readWord 2 (some .int) :: GW) ({ frames := 4, cells := 0, slots := 0, locals := 105 } : Room) (va_Pc [.ref M, .int z_w] (PW D cI cJ sz (MW cI cJ M mr mi mf mg) xT)) (va_Qi (fun (r : Int32) (u : Int32 × Int32 × Int32 × Int32 × Int32 × Int32) => (0 ≤ u.2.1.toInt) ∧ (u.2.1.toInt ≤ u.1.toInt) ∧ (u.1.toInt ≤ (mi 21).toInt) ∧ (0 ≤ u.2.2.1.toInt) ∧ (u.2.2.1.toInt ≤ 4) ∧ (u.2.2.1.toInt ≤ 4 * u.1.toInt - 4 * u.2.1.toInt) ∧ (AGN u.2.2.1.toInt u.2.2.2.1.toInt u.2.1.toInt u.1.toInt) ∧ ((r = (-1)) ∨ (r = 0 ∧ (mi 23).toInt + 1 ≤ u.2.1.toInt))) (fun u => QW D cI cJ (va_A (MW cI cJ M mr mi mf mg) sz) ((fun (u : Int32 × Int32 × Int32 × Int32 × Int32 × Int32) => (MW cI cJ M mr (upd (upd (upd (upd (upd (upd mi 22 u.1) 23 u.2.1) 24 u.2.2.1) 25 u.2.2.2.1) 38 u.2.2.2.2.1) 39 u.2.2.2.2.2) mf mg)) u)) (va_A (MW cI cJ M mr mi mf mg) sz)) 0 0 (va_A (MW cI cJ M mr mi mf mg) sz) := by
  refine mk_met (y := yX12_readWord) (bytes := cX12_readWord) (maxL := 2) (avs := [.ref M, .int z_w]) (WS := (MW cI cJ M mr mi mf mg)) (Qf := fun A => va_Qi (fun (r : Int32) (u : Int32 × Int32 × Int32 × Int32 × Int32 × Int32) => (0 ≤ u.2.1.toInt) ∧ (u.2.1.toInt ≤ u.1.toInt) ∧ (u.1.toInt ≤ (mi 21).toInt) ∧ (0 ≤ u.2.2.1.toInt) ∧ (u.2.2.1.toInt ≤ 4) ∧ (u.2.2.1.toInt ≤ 4 * u.1.toInt - 4 * u.2.1.toInt) ∧ (AGN u.2.2.1.toInt u.2.2.2.1.toInt u.2.1.toInt u.1.toInt) ∧ ((r = (-1)) ∨ (r = 0 ∧ (mi 23).toInt + 1 ≤ u.2.1.toInt))) (fun u => QW D cI cJ A ((fun (u : Int32 × Int32 × Int32 × Int32 × Int32 × Int32) => (MW cI cJ M mr (upd (upd (upd (upd (upd (upd mi 22 u.1) 23 u.2.1) 24 u.2.2.1) 25 u.2.2.2.1) 38 u.2.2.2.2.1) 39 u.2.2.2.2.2) mf mg)) u)) A) (by decide) (Nat.le_of_ble_eq_true rfl) ?_
  intro p e s m below meth c A ls E hr hlk hnm hX hw1 hl2
  have hl3 : lv_has ls 2 [(0, .ref M), (1, .int z_w)] := hl2
  refine lv_aload_n (pc := 0) E.1 E.2.1 dX12_readWord_0 rfl (lv_at hl3 0 rfl) ?_
  refine lv_iload_n (pc := 1) E.1 E.2.1 dX12_readWord_1 rfl (lv_at hl3 1 rfl) ?_
  refine cm_i (pc := 2) hw1 (rn_M (As := [.int z_w]) (rest := []) E hw1 (s_isWord2 l D cI cJ _ M mr mi mf mg z_w) (gdV q_1694 q_1696 q_59 q_162 q_1697) hdV_X12_isWord ⟨rfl, rfl⟩ ⟨(Nat.le_of_ble_eq_true rfl), (Nat.le_of_ble_eq_true rfl)⟩ ⟨(Nat.le_of_ble_eq_true rfl), (Nat.le_of_ble_eq_true rfl)⟩ 12 rfl rfl rfl rfl hl3.1 rfl (Nat.le_of_ble_eq_true rfl) dX12_readWord_2) (fun r_5 u_4 H1 locs hp hw6 => ?_)
  generalize H1 = H at hw6 ⊢
  have hw7 : WD D A s.heap (MW cI cJ M mr mi mf mg) H locs := hw6
  have hp_8 := hp
  rcases hp_8 with ⟨rfl, ha_9, ha_10⟩ | rfl
  · skip
    have ha_9 : (mi 24).toInt = 2 := ha_9
    have ha_10 : (mi 25).toInt = z_w.toInt := ha_10
    refine lv_if_ne (pc := 5) (tgt := 14) E.1 E.2.1 dX12_readWord_5 (by decide) (fun _ => ?_) (fun c_11 => absurd c_11 (mneE (a := 1) (b := 0) (by decide +kernel) (by decide +kernel) (by omega)))
    refine lv_aload_n (pc := 14) E.1 E.2.1 dX12_readWord_14 rfl (lv_at hl3 0 rfl) ?_
    refine cm_v (pc := 15) hw7 (rn_M (As := []) (rest := []) E hw7 (s_reads2 l D cI cJ _ M mr mi mf mg (by show 0 ≤ (mi 22).toInt; omega) h2 h3 h7 (show (∀ j : Nat, j < 154 → (mf 26) j = w0 j) from lf_words)) (gdV q_1666 q_1668 q_52 q_162 q_1669) hdV_X12_reads ⟨rfl, rfl⟩ ⟨(Nat.le_of_ble_eq_true rfl), (Nat.le_of_ble_eq_true rfl)⟩ ⟨(Nat.le_of_ble_eq_true rfl), (Nat.le_of_ble_eq_true rfl)⟩ 12 rfl rfl rfl rfl hl3.1 rfl (Nat.le_of_ble_eq_true rfl) dX12_readWord_15) (fun u_12 H1 locs hp hw14 => ?_)
    obtain ⟨nspot_15, nfrom_16, ntoken_17, nvalue_18⟩ := u_12
    generalize H1 = H at hw14 ⊢
    have hw19 : WD D A s.heap (MW cI cJ M mr (upd (upd (upd (upd mi 22 nspot_15) 23 nfrom_16) 24 ntoken_17) 25 nvalue_18) mf mg) H locs := hw14
    obtain ⟨hp_20, hp_21, hp_22, hp_23, hp_24, hp_25, hp_26, hp_27⟩ := hp
    have hp_20 : 0 ≤ nfrom_16.toInt := hp_20
    have hp_21 : nfrom_16.toInt ≤ nspot_15.toInt := hp_21
    have hp_22 : nspot_15.toInt ≤ (mi 21).toInt := hp_22
    have hp_23 : 0 ≤ ntoken_17.toInt := hp_23
    have hp_24 : ntoken_17.toInt ≤ 4 := hp_24
    have hp_25 : ntoken_17.toInt ≤ 4 * nspot_15.toInt - 4 * nfrom_16.toInt := hp_25
    have hp_26 : (mi 22).toInt ≤ nfrom_16.toInt := hp_26
    have hp_27 : AGN ntoken_17.toInt nvalue_18.toInt nfrom_16.toInt nspot_15.toInt := hp_27
    refine lv_iconst (pc := 18) (v := 0) E.1 E.2.1 dX12_readWord_18 (by decide +kernel) ?_
    exact em_i (w1 := (fun (u : Int32 × Int32 × Int32 × Int32 × Int32 × Int32) => (MW cI cJ M mr (upd (upd (upd (upd (upd (upd mi 22 u.1) 23 u.2.1) 24 u.2.2.1) 25 u.2.2.2.1) 38 u.2.2.2.2.1) 39 u.2.2.2.2.2) mf mg))) E hr hlk (nspot_15, nfrom_16, ntoken_17, nvalue_18, (mi 38), (mi 39)) hw19 ⟨hp_20, hp_21, hp_22, hp_23, hp_24, hp_25, hp_27, (Or.inr (⟨rfl, (by show (mi 23).toInt + 1 ≤ nfrom_16.toInt; omega)⟩))⟩ (Nat.le_of_ble_eq_true rfl) (Nat.le_of_ble_eq_true rfl) dX12_readWord_19
  · skip
    refine lv_if_ne (pc := 5) (tgt := 14) E.1 E.2.1 dX12_readWord_5 (by decide) (fun c_28 => absurd (meqE (a := 0) (b := 0) (by decide +kernel) (by decide +kernel) (by omega)) c_28) (fun _ => ?_)
    refine lv_aload_n (pc := 8) E.1 E.2.1 dX12_readWord_8 rfl (lv_at hl3 0 rfl) ?_
    refine lv_iconst (pc := 9) (v := 1) E.1 E.2.1 dX12_readWord_9 (by decide +kernel) ?_
    refine cm_i (pc := 10) hw7 (rn_M (As := [.int 1]) (rest := []) E hw7 (s_errs2 l D cI cJ _ M mr mi mf mg 1) (gdV q_1698 q_1700 q_60 q_162 q_1701) hdV_X12_errs ⟨rfl, rfl⟩ ⟨(Nat.le_of_ble_eq_true rfl), (Nat.le_of_ble_eq_true rfl)⟩ ⟨(Nat.le_of_ble_eq_true rfl), (Nat.le_of_ble_eq_true rfl)⟩ 12 rfl rfl rfl rfl hl3.1 rfl (Nat.le_of_ble_eq_true rfl) dX12_readWord_10) (fun r_30 u_29 H1 locs hp hw31 => ?_)
    obtain ⟨nreadFault_32, nreadPlace_33⟩ := u_29
    generalize H1 = H at hw31 ⊢
    have hw34 : WD D A s.heap (MW cI cJ M mr (upd (upd mi 38 nreadFault_32) 39 nreadPlace_33) mf mg) H locs := hw31
    have hp_35 := hp
    rcases hp_35 with rfl
    · skip
      exact em_i (w1 := (fun (u : Int32 × Int32 × Int32 × Int32 × Int32 × Int32) => (MW cI cJ M mr (upd (upd (upd (upd (upd (upd mi 22 u.1) 23 u.2.1) 24 u.2.2.1) 25 u.2.2.2.1) 38 u.2.2.2.2.1) 39 u.2.2.2.2.2) mf mg))) E hr hlk ((mi 22), (mi 23), (mi 24), (mi 25), nreadFault_32, nreadPlace_33) hw34 ⟨h0, h1, h2, h4, h5, h6, lf_again, (Or.inl rfl)⟩ (Nat.le_of_ble_eq_true rfl) (Nat.le_of_ble_eq_true rfl) dX12_readWord_13

set_option maxHeartbeats 4000000 in
set_option maxRecDepth 100000 in
theorem s_readMark (l : Launch) (D : va_G) (cI cJ : ClassId) (sz M : Nat) (mr : Nat → Nat) (mi : Nat → Int32) (mf : Nat → Nat → Int32) (mg : Nat → Nat → Int64) (z_c : Int32) (h0 : 0 ≤ (mi 23).toInt) (h1 : (mi 23).toInt ≤ (mi 22).toInt) (h2 : (mi 22).toInt ≤ (mi 21).toInt) (h3 : (mi 21).toInt ≤ 400) (h4 : 0 ≤ (mi 24).toInt) (h5 : (mi 24).toInt ≤ 4) (h6 : (mi 24).toInt ≤ 4 * (mi 22).toInt - 4 * (mi 23).toInt) (h7 : ((mf 26) 153).toInt = 32) (lf_words : (∀ j : Nat, j < 154 → (mf 26) j = w0 j)) (lf_again : AGN ((mi 24).toInt) ((mi 25).toInt) ((mi 23).toInt) ((mi 22).toInt)) : Met l yX12_readMark (Cond.code yX12_readMark cX12_readMark 2 (some .int) :: GW) ({ frames := 4, cells := 0, slots := 0, locals := 105 } : Room) (va_Pc [.ref M, .int z_c] (PW D cI cJ sz (MW cI cJ M mr mi mf mg) xT)) (va_Qi (fun (r : Int32) (u : Int32 × Int32 × Int32 × Int32 × Int32 × Int32) => (0 ≤ u.2.1.toInt) ∧ (u.2.1.toInt ≤ u.1.toInt) ∧ (u.1.toInt ≤ (mi 21).toInt) ∧ (0 ≤ u.2.2.1.toInt) ∧ (u.2.2.1.toInt ≤ 4) ∧ (u.2.2.1.toInt ≤ 4 * u.1.toInt - 4 * u.2.1.toInt) ∧ (AGN u.2.2.1.toInt u.2.2.2.1.toInt u.2.1.toInt u.1.toInt) ∧ ((r = (-1)) ∨ (r = 0 ∧ (mi 23).toInt + 1 ≤ u.2.1.toInt))) (fun u => QW D cI cJ (va_A (MW cI cJ M mr mi mf mg) sz) ((fun (u : Int32 × Int32 × Int32 × Int32 × Int32 × Int32) => (MW cI cJ M mr (upd (upd (upd (upd (upd (upd mi 22 u.1) 23 u.2.1) 24 u.2.2.1) 25 u.2.2.2.1) 38 u.2.2.2.2.1) 39 u.2.2.2.2.2) mf mg)) u)) (va_A (MW cI cJ M mr mi mf mg) sz)) 0 0 (va_A (MW cI cJ M mr mi mf mg) sz) := by
  refine mk_met (y := yX12_readMark) (bytes := cX12_readMark) (maxL := 2) (avs := [.ref M, .int z_c]) (WS := (MW cI cJ M mr mi mf mg)) (Qf := fun A => va_Qi (fun (r : Int32) (u : Int32 × Int32 × Int32 × Int32 × Int32 × Int32) => (0 ≤ u.2.1.toInt) ∧ (u.2.1.toInt ≤ u.1.toInt) ∧ (u.1.toInt ≤ (mi 21).toInt) ∧ (0 ≤ u.2.2.1.toInt) ∧ (u.2.2.1.toInt ≤ 4) ∧ (u.2.2.1.toInt ≤ 4 * u.1.toInt - 4 * u.2.1.toInt) ∧ (AGN u.2.2.1.toInt u.2.2.2.1.toInt u.2.1.toInt u.1.toInt) ∧ ((r = (-1)) ∨ (r = 0 ∧ (mi 23).toInt + 1 ≤ u.2.1.toInt))) (fun u => QW D cI cJ A ((fun (u : Int32 × Int32 × Int32 × Int32 × Int32 × Int32) => (MW cI cJ M mr (upd (upd (upd (upd (upd (upd mi 22 u.1) 23 u.2.1) 24 u.2.2.1) 25 u.2.2.2.1) 38 u.2.2.2.2.1) 39 u.2.2.2.2.2) mf mg)) u)) A) (by decide) (Nat.le_of_ble_eq_true rfl) ?_
  intro p e s m below meth c A ls E hr hlk hnm hX hw1 hl2
  have hl3 : lv_has ls 2 [(0, .ref M), (1, .int z_c)] := hl2
  refine lv_aload_n (pc := 0) E.1 E.2.1 dX12_readMark_0 rfl (lv_at hl3 0 rfl) ?_
  refine lv_iload_n (pc := 1) E.1 E.2.1 dX12_readMark_1 rfl (lv_at hl3 1 rfl) ?_
  refine cm_i (pc := 2) hw1 (rn_M (As := [.int z_c]) (rest := []) E hw1 (s_isSign2 l D cI cJ _ M mr mi mf mg z_c) (gdV q_1718 q_1720 q_65 q_162 q_1721) hdV_X12_isSign ⟨rfl, rfl⟩ ⟨(Nat.le_of_ble_eq_true rfl), (Nat.le_of_ble_eq_true rfl)⟩ ⟨(Nat.le_of_ble_eq_true rfl), (Nat.le_of_ble_eq_true rfl)⟩ 12 rfl rfl rfl rfl hl3.1 rfl (Nat.le_of_ble_eq_true rfl) dX12_readMark_2) (fun r_5 u_4 H1 locs hp hw6 => ?_)
  generalize H1 = H at hw6 ⊢
  have hw7 : WD D A s.heap (MW cI cJ M mr mi mf mg) H locs := hw6
  have hp_8 := hp
  rcases hp_8 with ⟨rfl, ha_9, ha_10⟩ | rfl
  · skip
    have ha_9 : (mi 24).toInt = 4 := ha_9
    have ha_10 : (mi 25).toInt = z_c.toInt := ha_10
    refine lv_if_ne (pc := 5) (tgt := 14) E.1 E.2.1 dX12_readMark_5 (by decide) (fun _ => ?_) (fun c_11 => absurd c_11 (mneE (a := 1) (b := 0) (by decide +kernel) (by decide +kernel) (by omega)))
    refine lv_aload_n (pc := 14) E.1 E.2.1 dX12_readMark_14 rfl (lv_at hl3 0 rfl) ?_
    refine cm_v (pc := 15) hw7 (rn_M (As := []) (rest := []) E hw7 (s_reads2 l D cI cJ _ M mr mi mf mg (by show 0 ≤ (mi 22).toInt; omega) h2 h3 h7 (show (∀ j : Nat, j < 154 → (mf 26) j = w0 j) from lf_words)) (gdV q_1666 q_1668 q_52 q_162 q_1669) hdV_X12_reads ⟨rfl, rfl⟩ ⟨(Nat.le_of_ble_eq_true rfl), (Nat.le_of_ble_eq_true rfl)⟩ ⟨(Nat.le_of_ble_eq_true rfl), (Nat.le_of_ble_eq_true rfl)⟩ 12 rfl rfl rfl rfl hl3.1 rfl (Nat.le_of_ble_eq_true rfl) dX12_readMark_15) (fun u_12 H1 locs hp hw14 => ?_)
    obtain ⟨nspot_15, nfrom_16, ntoken_17, nvalue_18⟩ := u_12
    generalize H1 = H at hw14 ⊢
    have hw19 : WD D A s.heap (MW cI cJ M mr (upd (upd (upd (upd mi 22 nspot_15) 23 nfrom_16) 24 ntoken_17) 25 nvalue_18) mf mg) H locs := hw14
    obtain ⟨hp_20, hp_21, hp_22, hp_23, hp_24, hp_25, hp_26, hp_27⟩ := hp
    have hp_20 : 0 ≤ nfrom_16.toInt := hp_20
    have hp_21 : nfrom_16.toInt ≤ nspot_15.toInt := hp_21
    have hp_22 : nspot_15.toInt ≤ (mi 21).toInt := hp_22
    have hp_23 : 0 ≤ ntoken_17.toInt := hp_23
    have hp_24 : ntoken_17.toInt ≤ 4 := hp_24
    have hp_25 : ntoken_17.toInt ≤ 4 * nspot_15.toInt - 4 * nfrom_16.toInt := hp_25
    have hp_26 : (mi 22).toInt ≤ nfrom_16.toInt := hp_26
    have hp_27 : AGN ntoken_17.toInt nvalue_18.toInt nfrom_16.toInt nspot_15.toInt := hp_27
    refine lv_iconst (pc := 18) (v := 0) E.1 E.2.1 dX12_readMark_18 (by decide +kernel) ?_
    exact em_i (w1 := (fun (u : Int32 × Int32 × Int32 × Int32 × Int32 × Int32) => (MW cI cJ M mr (upd (upd (upd (upd (upd (upd mi 22 u.1) 23 u.2.1) 24 u.2.2.1) 25 u.2.2.2.1) 38 u.2.2.2.2.1) 39 u.2.2.2.2.2) mf mg))) E hr hlk (nspot_15, nfrom_16, ntoken_17, nvalue_18, (mi 38), (mi 39)) hw19 ⟨hp_20, hp_21, hp_22, hp_23, hp_24, hp_25, hp_27, (Or.inr (⟨rfl, (by show (mi 23).toInt + 1 ≤ nfrom_16.toInt; omega)⟩))⟩ (Nat.le_of_ble_eq_true rfl) (Nat.le_of_ble_eq_true rfl) dX12_readMark_19
  · skip
    refine lv_if_ne (pc := 5) (tgt := 14) E.1 E.2.1 dX12_readMark_5 (by decide) (fun c_28 => absurd (meqE (a := 0) (b := 0) (by decide +kernel) (by decide +kernel) (by omega)) c_28) (fun _ => ?_)
    refine lv_aload_n (pc := 8) E.1 E.2.1 dX12_readMark_8 rfl (lv_at hl3 0 rfl) ?_
    refine lv_iconst (pc := 9) (v := 1) E.1 E.2.1 dX12_readMark_9 (by decide +kernel) ?_
    refine cm_i (pc := 10) hw7 (rn_M (As := [.int 1]) (rest := []) E hw7 (s_errs2 l D cI cJ _ M mr mi mf mg 1) (gdV q_1698 q_1700 q_60 q_162 q_1701) hdV_X12_errs ⟨rfl, rfl⟩ ⟨(Nat.le_of_ble_eq_true rfl), (Nat.le_of_ble_eq_true rfl)⟩ ⟨(Nat.le_of_ble_eq_true rfl), (Nat.le_of_ble_eq_true rfl)⟩ 12 rfl rfl rfl rfl hl3.1 rfl (Nat.le_of_ble_eq_true rfl) dX12_readMark_10) (fun r_30 u_29 H1 locs hp hw31 => ?_)
    obtain ⟨nreadFault_32, nreadPlace_33⟩ := u_29
    generalize H1 = H at hw31 ⊢
    have hw34 : WD D A s.heap (MW cI cJ M mr (upd (upd mi 38 nreadFault_32) 39 nreadPlace_33) mf mg) H locs := hw31
    have hp_35 := hp
    rcases hp_35 with rfl
    · skip
      exact em_i (w1 := (fun (u : Int32 × Int32 × Int32 × Int32 × Int32 × Int32) => (MW cI cJ M mr (upd (upd (upd (upd (upd (upd mi 22 u.1) 23 u.2.1) 24 u.2.2.1) 25 u.2.2.2.1) 38 u.2.2.2.2.1) 39 u.2.2.2.2.2) mf mg))) E hr hlk ((mi 22), (mi 23), (mi 24), (mi 25), nreadFault_32, nreadPlace_33) hw34 ⟨h0, h1, h2, h4, h5, h6, lf_again, (Or.inl rfl)⟩ (Nat.le_of_ble_eq_true rfl) (Nat.le_of_ble_eq_true rfl) dX12_readMark_13

