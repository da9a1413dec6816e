set_option maxHeartbeats 4000000 in
set_option maxRecDepth 100000 in
theorem s_wordAt2 (l : Launch) (D : va_G) (cI cJ : ClassId) (sz M : Nat) (mr : Nat → Nat) (mi : Nat → Int32) (mf : Nat → Nat → Int32) (mg : Nat → Nat → Int64) (z_a : Int32) (z_b : Int32) (h0 : 0 ≤ z_a.toInt) (h1 : z_a.toInt ≤ z_b.toInt) (h2 : z_b.toInt ≤ 400) (h3 : ((mf 26) 153).toInt = 32) (lf_words : (∀ j : Nat, j < 154 → (mf 26) j = w0 j)) (x_let : LT (mf 20) (z_a).toInt (z_b).toInt) : Met l yX12_wordAt (Cond.code yX12_wordAt cX12_wordAt 6 (some .int) :: GW) ({ frames := 1, cells := 0, slots := 0, locals := 40 } : Room) (va_Pc [.ref M, .int z_a, .int z_b] (PW D cI cJ sz (MW cI cJ M mr mi mf mg) xT)) (va_Qi (fun (r : Int32) (u : Unit) => (((r : Int32).toInt = 30 → (z_a).toInt + 3 ≤ (z_b).toInt))) (fun u => QW D cI cJ (va_A (MW cI cJ M mr mi mf mg) sz) ((fun (u : Unit) => (MW cI cJ M mr mi mf mg)) u)) (va_A (MW cI cJ M mr mi mf mg) sz)) 0 0 (va_A (MW cI cJ M mr mi mf mg) sz) := by
  refine mk_met (y := yX12_wordAt) (bytes := cX12_wordAt) (maxL := 6) (avs := [.ref M, .int z_a, .int z_b]) (WS := (MW cI cJ M mr mi mf mg)) (Qf := fun A => va_Qi (fun (r : Int32) (u : Unit) => (((r : Int32).toInt = 30 → (z_a).toInt + 3 ≤ (z_b).toInt))) (fun u => QW D cI cJ A ((fun (u : Unit) => (MW cI cJ M mr mi mf mg)) u)) A) (by decide) (Nat.le_of_ble_eq_true rfl) ?_
  intro p e s m below meth c A ls E hr hlk hnm hX hw1 hl2
  have hl3 : lv_has ls 6 [(0, .ref M), (1, .int z_a), (2, .int z_b)] := hl2
  refine lv_iconst (pc := 0) (v := (-1)) E.1 E.2.1 dX12_wordAt_0 (by decide +kernel) ?_
  refine lv_istore_n (pc := 1) (lv' := [(3, .int (-1)), (0, .ref M), (1, .int z_a), (2, .int z_b)]) E.1 E.2.1 dX12_wordAt_1 rfl hl3 (by decide) rfl (fun ls hl4 => ?_)
  refine lv_iconst (pc := 2) (v := 0) E.1 E.2.1 dX12_wordAt_2 (by decide +kernel) ?_
  refine lv_istore (pc := 3) (lv' := [(4, .int 0), (3, .int (-1)), (0, .ref M), (1, .int z_a), (2, .int z_b)]) E.1 E.2.1 dX12_wordAt_3 hl4 (by decide) rfl (fun ls hl5 => ?_)
  have loop_6 : ∀ (k : Nat) (x_7 : Int32) (x_8 : Int32) (H : Heap) (locs : List Loc) (ls : Array Slot), (0 ≤ x_7.toInt ∧ x_7.toInt ≤ 153) ∧ ((-1) ≤ x_8.toInt) ∧ (x_8.toInt + 1 ≤ x_7.toInt) ∧ (x_8.toInt + 1 = (spc x_7.toNatClampNeg : Int) ∧ w0 x_7.toNatClampNeg = 32) → 153 - x_7.toInt < (k : Int) → WD D A s.heap (MW cI cJ M mr mi mf mg) H locs → lv_has ls 6 [(4, .int x_7), (3, .int x_8), (0, .ref M), (1, .int z_a), (2, .int z_b)] → W p l e ({ frames := 1, cells := 0, slots := 0, locals := 40 } : Room) s m ([.ref M, .int z_a, .int z_b] : List Value).toArray below meth c H locs 0 0 (MQ below (va_Qi (fun (r : Int32) (u : Unit) => (((r : Int32).toInt = 30 → (z_a).toInt + 3 ≤ (z_b).toInt))) (fun u => QW D cI cJ A ((fun (u : Unit) => (MW cI cJ M mr mi mf mg)) u)) A) ([.ref M, .int z_a, .int z_b] : List Value).toArray s 0 0 A) (F0 m 5 ls []) := by
    intro k
    induction k with
    | zero =>
      intro x_7 x_8 _ _ _ hinv hm
      obtain ⟨hi_8_0, hi_8_1, hi_8_2, hi_8_3⟩ := hinv
      exact absurd hm (by omega)
    | succ k ih_9 =>
      intro x_7 x_8 H locs ls hinv hm hw10 hl11
      obtain ⟨hi_8_0, hi_8_1, hi_8_2, hi_8_3⟩ := hinv
      refine lv_iload (pc := 5) E.1 E.2.1 dX12_wordAt_5 (lv_at hl11 0 rfl) ?_
      refine lv_sipush (pc := 7) (v := 153) E.1 E.2.1 dX12_wordAt_7 (by decide +kernel) ?_
      refine lv_icmp_ge (pc := 10) (tgt := 118) E.1 E.2.1 dX12_wordAt_10 (by decide) (fun c_12 => ?_) (fun c_12 => ?_)
      · skip
        have hc_12 := leE (a := 153) (b := x_7.toInt) (by decide +kernel) rfl c_12
        refine lv_iconst (pc := 118) (v := (-1)) E.1 E.2.1 dX12_wordAt_118 (by decide +kernel) ?_
        exact em_i (w1 := (fun (u : Unit) => (MW cI cJ M mr mi mf mg))) E hr hlk () hw10 (show (((-1) : Int32).toInt = 30 → (z_a).toInt + 3 ≤ (z_b).toInt) from (fun h => absurd h (by decide +kernel))) (Nat.le_of_ble_eq_true rfl) (Nat.le_of_ble_eq_true rfl) dX12_wordAt_119
      · skip
        have hc_12 := nleE (a := 153) (b := x_7.toInt) (by decide +kernel) rfl c_12
        refine lv_iconst (pc := 13) (v := 0) E.1 E.2.1 dX12_wordAt_13 (by decide +kernel) ?_
        refine lv_istore (pc := 14) (lv' := [(5, .int 0), (4, .int x_7), (3, .int x_8), (0, .ref M), (1, .int z_a), (2, .int z_b)]) E.1 E.2.1 dX12_wordAt_14 hl11 (by decide) rfl (fun ls hl13 => ?_)
        refine lv_iload_n (pc := 16) E.1 E.2.1 dX12_wordAt_16 rfl (lv_at hl13 2 rfl) ?_
        refine lv_iconst (pc := 17) (v := 1) E.1 E.2.1 dX12_wordAt_17 (by decide +kernel) ?_
        refine lv_iadd (pc := 18) E.1 E.2.1 dX12_wordAt_18 ?_
        refine lv_topi (fun v_14 ev_14 => ?_)
        have hv_14 : v_14.toInt = x_8.toInt + 1 := by rw [ev_14]; exact addE rfl (by decide +kernel) (by omega)
        refine lv_istore_n (pc := 19) (lv' := [(3, .int v_14), (5, .int 0), (4, .int x_7), (0, .ref M), (1, .int z_a), (2, .int z_b)]) E.1 E.2.1 dX12_wordAt_19 rfl hl13 (by decide) rfl (fun ls hl15 => ?_)
        have loop_16 : ∀ (k : Nat) (x_17 : Int32) (H : Heap) (locs : List Loc) (ls : Array Slot), (0 ≤ x_17.toInt) ∧ (z_a.toInt + x_17.toInt ≤ z_b.toInt) ∧ (x_7.toInt + 1 + x_17.toInt ≤ 153) → 400 - x_17.toInt < (k : Int) → WD D A s.heap (MW cI cJ M mr mi mf mg) H locs → lv_has ls 6 [(3, .int v_14), (5, .int x_17), (4, .int x_7), (0, .ref M), (1, .int z_a), (2, .int z_b)] → W p l e ({ frames := 1, cells := 0, slots := 0, locals := 40 } : Room) s m ([.ref M, .int z_a, .int z_b] : List Value).toArray below meth c H locs 0 0 (MQ below (va_Qi (fun (r : Int32) (u : Unit) => (((r : Int32).toInt = 30 → (z_a).toInt + 3 ≤ (z_b).toInt))) (fun u => QW D cI cJ A ((fun (u : Unit) => (MW cI cJ M mr mi mf mg)) u)) A) ([.ref M, .int z_a, .int z_b] : List Value).toArray s 0 0 A) (F0 m 20 ls []) := by
          intro k
          induction k with
          | zero =>
            intro x_17 _ _ _ hinv hm
            obtain ⟨hi_17_0, hi_17_1, hi_17_2⟩ := hinv
            exact absurd hm (by omega)
          | succ k ih_18 =>
            intro x_17 H locs ls hinv hm hw19 hl20
            obtain ⟨hi_17_0, hi_17_1, hi_17_2⟩ := hinv
            refine lv_iload_n (pc := 20) E.1 E.2.1 dX12_wordAt_20 rfl (lv_at hl20 4 rfl) ?_
            refine lv_iload (pc := 21) E.1 E.2.1 dX12_wordAt_21 (lv_at hl20 1 rfl) ?_
            refine lv_iadd (pc := 23) E.1 E.2.1 dX12_wordAt_23 ?_
            refine lv_topi (fun v_21 ev_21 => ?_)
            have hv_21 : v_21.toInt = z_a.toInt + x_17.toInt := by rw [ev_21]; exact addE rfl rfl (by omega)
            refine lv_iload_n (pc := 24) E.1 E.2.1 dX12_wordAt_24 rfl (lv_at hl20 5 rfl) ?_
            refine lv_icmp_ge (pc := 25) (tgt := 61) E.1 E.2.1 dX12_wordAt_25 (by decide) (fun c_22 => ?_) (fun c_22 => ?_)
            · skip
              have hc_22 := leE (a := z_b.toInt) (b := v_21.toInt) rfl rfl c_22
              refine lv_iload_n (pc := 61) E.1 E.2.1 dX12_wordAt_61 rfl (lv_at hl20 4 rfl) ?_
              refine lv_iload (pc := 62) E.1 E.2.1 dX12_wordAt_62 (lv_at hl20 1 rfl) ?_
              refine lv_iadd (pc := 64) E.1 E.2.1 dX12_wordAt_64 ?_
              refine lv_topi (fun v_23 ev_23 => ?_)
              have hv_23 : v_23.toInt = z_a.toInt + x_17.toInt := by rw [ev_23]; exact addE rfl rfl (by omega)
              refine lv_iload_n (pc := 65) E.1 E.2.1 dX12_wordAt_65 rfl (lv_at hl20 5 rfl) ?_
              refine lv_icmp_ne (pc := 66) (tgt := 88) E.1 E.2.1 dX12_wordAt_66 (by decide) (fun c_24 => absurd (meqE (a := v_23.toInt) (b := z_b.toInt) rfl rfl (by omega)) c_24) (fun _ => ?_)
              refine lv_aload_n (pc := 69) E.1 E.2.1 dX12_wordAt_69 rfl (lv_at hl20 3 rfl) ?_
              refine x_get (pc := 70) (T := TX12) (N := 70) (ci := 12) (v := .ref (mr 26)) E hw19 inX12 0 26 q_1425 rfl rfl (by decide) rfl rfl dX12_wordAt_70 ?_
              refine lv_iload (pc := 73) E.1 E.2.1 dX12_wordAt_73 (lv_at hl20 2 rfl) ?_
              refine lv_iconst (pc := 75) (v := 1) E.1 E.2.1 dX12_wordAt_75 (by decide +kernel) ?_
              refine lv_iadd (pc := 76) E.1 E.2.1 dX12_wordAt_76 ?_
              refine lv_topi (fun v_25 ev_25 => ?_)
              have hv_25 : v_25.toInt = x_7.toInt + 1 := by rw [ev_25]; exact addE rfl (by decide +kernel) (by omega)
              refine lv_iload (pc := 77) E.1 E.2.1 dX12_wordAt_77 (lv_at hl20 1 rfl) ?_
              refine lv_iadd (pc := 79) E.1 E.2.1 dX12_wordAt_79 ?_
              refine lv_topi (fun v_26 ev_26 => ?_)
              have hv_26 : v_26.toInt = v_25.toInt + x_17.toInt := by rw [ev_26]; exact addE rfl rfl (by omega)
              refine x_iald (pc := 80) (f := (mf 26)) E hw19 13 rfl (inbE (a := v_26.toInt) rfl (by omega)) dX12_wordAt_80 ?_
              refine lv_topi (fun v_27 ev_27 => ?_)
              refine lv_bipush (pc := 81) (v := 32) E.1 E.2.1 dX12_wordAt_81 (by decide +kernel) ?_
              refine lv_icmp_ne (pc := 83) (tgt := 88) E.1 E.2.1 dX12_wordAt_83 (by decide) (fun c_28 => ?_) (fun c_28 => ?_)
              · skip
                have hc_28 := neE (a := v_27.toInt) (b := 32) rfl (by decide +kernel) c_28
                refine lv_iload (pc := 88) E.1 E.2.1 dX12_wordAt_88 (lv_at hl20 2 rfl) ?_
                refine lv_iconst (pc := 90) (v := 1) E.1 E.2.1 dX12_wordAt_90 (by decide +kernel) ?_
                refine lv_iadd (pc := 91) E.1 E.2.1 dX12_wordAt_91 ?_
                refine lv_topi (fun v_29 ev_29 => ?_)
                have hv_29 : v_29.toInt = x_7.toInt + 1 := by rw [ev_29]; exact addE rfl (by decide +kernel) (by omega)
                refine lv_istore (pc := 92) (lv' := [(4, .int v_29), (3, .int v_14), (5, .int x_17), (0, .ref M), (1, .int z_a), (2, .int z_b)]) E.1 E.2.1 dX12_wordAt_92 hl20 (by decide) rfl (fun ls hl30 => ?_)
                have loop_31 : ∀ (k : Nat) (x_32 : Int32) (H : Heap) (locs : List Loc) (ls : Array Slot), (x_7.toInt + 1 ≤ x_32.toInt) ∧ (x_32.toInt ≤ 153) ∧ (v_14.toInt + 1 = (spc x_32.toNatClampNeg : Int)) → 153 - x_32.toInt < (k : Int) → WD D A s.heap (MW cI cJ M mr mi mf mg) H locs → lv_has ls 6 [(4, .int x_32), (3, .int v_14), (0, .ref M), (1, .int z_a), (2, .int z_b)] → W p l e ({ frames := 1, cells := 0, slots := 0, locals := 40 } : Room) s m ([.ref M, .int z_a, .int z_b] : List Value).toArray below meth c H locs 0 0 (MQ below (va_Qi (fun (r : Int32) (u : Unit) => (((r : Int32).toInt = 30 → (z_a).toInt + 3 ≤ (z_b).toInt))) (fun u => QW D cI cJ A ((fun (u : Unit) => (MW cI cJ M mr mi mf mg)) u)) A) ([.ref M, .int z_a, .int z_b] : List Value).toArray s 0 0 A) (F0 m 94 ls []) := by
                  intro k
                  induction k with
                  | zero =>
                    intro x_32 _ _ _ hinv hm
                    obtain ⟨hi_32_0, hi_32_1, hi_32_2⟩ := hinv
                    exact absurd hm (by omega)
                  | succ k ih_33 =>
                    intro x_32 H locs ls hinv hm hw34 hl35
                    obtain ⟨hi_32_0, hi_32_1, hi_32_2⟩ := hinv
                    refine lv_aload_n (pc := 94) E.1 E.2.1 dX12_wordAt_94 rfl (lv_at hl35 2 rfl) ?_
                    refine x_get (pc := 95) (T := TX12) (N := 70) (ci := 12) (v := .ref (mr 26)) E hw34 inX12 0 26 q_1425 rfl rfl (by decide) rfl rfl dX12_wordAt_95 ?_
                    refine lv_iload (pc := 98) E.1 E.2.1 dX12_wordAt_98 (lv_at hl35 0 rfl) ?_
                    refine x_iald (pc := 100) (f := (mf 26)) E hw34 13 rfl (inbE (a := x_32.toInt) rfl (by omega)) dX12_wordAt_100 ?_
                    refine lv_topi (fun v_36 ev_36 => ?_)
                    refine lv_bipush (pc := 101) (v := 32) E.1 E.2.1 dX12_wordAt_101 (by decide +kernel) ?_
                    refine lv_icmp_eq (pc := 103) (tgt := 115) E.1 E.2.1 dX12_wordAt_103 (by decide) (fun c_37 => ?_) (fun c_37 => ?_)
                    · skip
                      have hc_37 := eqE (a := v_36.toInt) (b := 32) rfl (by decide +kernel) c_37
                      refine lv_goto (pc := 115) (tgt := 5) E.1 E.2.1 dX12_wordAt_115 (by decide) ?_
                      exact ih_9 x_32 v_14 _ _ _ ⟨(by show 0 ≤ x_32.toInt ∧ x_32.toInt ≤ 153; omega), (by show (-1) ≤ v_14.toInt; omega), (by show v_14.toInt + 1 ≤ x_32.toInt; omega), ⟨hi_32_2, (wd_is lf_words ev_36 (by omega)).1 (by omega)⟩⟩ (by omega) hw34 (lv_sub hl35 [0, 1, 2, 3, 4] rfl)
                    · skip
                      have hc_37 := neE (a := v_36.toInt) (b := 32) rfl (by decide +kernel) c_37
                      have hz37 := wd_stop2 ev_36 (by omega) (by omega)
                      refine lv_iload (pc := 106) E.1 E.2.1 dX12_wordAt_106 (lv_at hl35 0 rfl) ?_
                      refine lv_iconst (pc := 108) (v := 1) E.1 E.2.1 dX12_wordAt_108 (by decide +kernel) ?_
                      refine lv_iadd (pc := 109) E.1 E.2.1 dX12_wordAt_109 ?_
                      refine lv_topi (fun v_38 ev_38 => ?_)
                      have hv_38 : v_38.toInt = x_32.toInt + 1 := by rw [ev_38]; exact addE rfl (by decide +kernel) (by omega)
                      refine lv_istore (pc := 110) (lv' := [(4, .int v_38), (3, .int v_14), (0, .ref M), (1, .int z_a), (2, .int z_b)]) E.1 E.2.1 dX12_wordAt_110 hl35 (by decide) rfl (fun ls hl39 => ?_)
                      refine lv_goto (pc := 112) (tgt := 94) E.1 E.2.1 dX12_wordAt_112 (by decide) ?_
                      exact ih_33 v_38 _ _ _ ⟨(by show x_7.toInt + 1 ≤ v_38.toInt; omega), (by show v_38.toInt ≤ 153; omega), (sp_same hi_32_2 ((wd_is lf_words ev_36 (by omega)).2 (by omega)) (by omega) (by omega))⟩ (by omega) hw34 (lv_sub hl39 [0, 1, 2, 3, 4] rfl)
                exact loop_31 (Int.toNat (153 - v_29.toInt) + 1) v_29 _ _ _ ⟨(by show x_7.toInt + 1 ≤ v_29.toInt; omega), (by show v_29.toInt ≤ 153; omega), (sp_next hi_8_3.1 hi_8_3.2 (by omega) (by omega) (by omega))⟩ (by omega) hw19 (lv_sub hl30 [0, 1, 3, 4, 5] rfl)
              · skip
                have hc_28 := eqE (a := v_27.toInt) (b := 32) rfl (by decide +kernel) c_28
                refine lv_iload_n (pc := 86) E.1 E.2.1 dX12_wordAt_86 rfl (lv_at hl20 0 rfl) ?_
                exact em_i (w1 := (fun (u : Unit) => (MW cI cJ M mr mi mf mg))) E hr hlk () hw19 (show ((v_14 : Int32).toInt = 30 → (z_a).toInt + 3 ≤ (z_b).toInt) from (fun h30 => by have q := wd_30 lf_words (k := x_7) (n := v_14.toInt) (i := x_17.toInt) (by omega) (by have q2 := hi_8_3.1; omega) hi_8_3.2 ev_27 (by omega) (by omega) (by omega) (by omega) (by omega); omega)) (Nat.le_of_ble_eq_true rfl) (Nat.le_of_ble_eq_true rfl) dX12_wordAt_87
            · skip
              have hc_22 := nleE (a := z_b.toInt) (b := v_21.toInt) rfl rfl c_22
              refine lv_aload_n (pc := 28) E.1 E.2.1 dX12_wordAt_28 rfl (lv_at hl20 3 rfl) ?_
              refine x_get (pc := 29) (T := TX12) (N := 70) (ci := 12) (v := .ref (mr 26)) E hw19 inX12 0 26 q_1425 rfl rfl (by decide) rfl rfl dX12_wordAt_29 ?_
              refine lv_iload (pc := 32) E.1 E.2.1 dX12_wordAt_32 (lv_at hl20 2 rfl) ?_
              refine lv_iconst (pc := 34) (v := 1) E.1 E.2.1 dX12_wordAt_34 (by decide +kernel) ?_
              refine lv_iadd (pc := 35) E.1 E.2.1 dX12_wordAt_35 ?_
              refine lv_topi (fun v_40 ev_40 => ?_)
              have hv_40 : v_40.toInt = x_7.toInt + 1 := by rw [ev_40]; exact addE rfl (by decide +kernel) (by omega)
              refine lv_iload (pc := 36) E.1 E.2.1 dX12_wordAt_36 (lv_at hl20 1 rfl) ?_
              refine lv_iadd (pc := 38) E.1 E.2.1 dX12_wordAt_38 ?_
              refine lv_topi (fun v_41 ev_41 => ?_)
              have hv_41 : v_41.toInt = v_40.toInt + x_17.toInt := by rw [ev_41]; exact addE rfl rfl (by omega)
              refine x_iald (pc := 39) (f := (mf 26)) E hw19 13 rfl (inbE (a := v_41.toInt) rfl (by omega)) dX12_wordAt_39 ?_
              refine lv_topi (fun v_42 ev_42 => ?_)
              refine lv_aload_n (pc := 40) E.1 E.2.1 dX12_wordAt_40 rfl (lv_at hl20 3 rfl) ?_
              refine x_get (pc := 41) (T := TX12) (N := 70) (ci := 12) (v := .ref (mr 20)) E hw19 inX12 0 20 q_1419 rfl rfl (by decide) rfl rfl dX12_wordAt_41 ?_
              refine lv_iload_n (pc := 44) E.1 E.2.1 dX12_wordAt_44 rfl (lv_at hl20 4 rfl) ?_
              refine lv_iload (pc := 45) E.1 E.2.1 dX12_wordAt_45 (lv_at hl20 1 rfl) ?_
              refine lv_iadd (pc := 47) E.1 E.2.1 dX12_wordAt_47 ?_
              refine lv_topi (fun v_43 ev_43 => ?_)
              have hv_43 : v_43.toInt = z_a.toInt + x_17.toInt := by rw [ev_43]; exact addE rfl rfl (by omega)
              refine x_iald (pc := 48) (f := (mf 20)) E hw19 12 rfl (inbE (a := v_43.toInt) rfl (by omega)) dX12_wordAt_48 ?_
              refine lv_topi (fun v_44 ev_44 => ?_)
              refine lv_icmp_ne (pc := 49) (tgt := 61) E.1 E.2.1 dX12_wordAt_49 (by decide) (fun c_45 => ?_) (fun c_45 => ?_)
              · skip
                have hc_45 := neE (a := v_42.toInt) (b := v_44.toInt) rfl rfl c_45
                refine lv_iload_n (pc := 61) E.1 E.2.1 dX12_wordAt_61 rfl (lv_at hl20 4 rfl) ?_
                refine lv_iload (pc := 62) E.1 E.2.1 dX12_wordAt_62 (lv_at hl20 1 rfl) ?_
                refine lv_iadd (pc := 64) E.1 E.2.1 dX12_wordAt_64 ?_
                refine lv_topi (fun v_46 ev_46 => ?_)
                have hv_46 : v_46.toInt = z_a.toInt + x_17.toInt := by rw [ev_46]; exact addE rfl rfl (by omega)
                refine lv_iload_n (pc := 65) E.1 E.2.1 dX12_wordAt_65 rfl (lv_at hl20 5 rfl) ?_
                refine lv_icmp_ne (pc := 66) (tgt := 88) E.1 E.2.1 dX12_wordAt_66 (by decide) (fun _ => ?_) (fun c_47 => absurd c_47 (mneE (a := v_46.toInt) (b := z_b.toInt) rfl rfl (by omega)))
                refine lv_iload (pc := 88) E.1 E.2.1 dX12_wordAt_88 (lv_at hl20 2 rfl) ?_
                refine lv_iconst (pc := 90) (v := 1) E.1 E.2.1 dX12_wordAt_90 (by decide +kernel) ?_
                refine lv_iadd (pc := 91) E.1 E.2.1 dX12_wordAt_91 ?_
                refine lv_topi (fun v_48 ev_48 => ?_)
                have hv_48 : v_48.toInt = x_7.toInt + 1 := by rw [ev_48]; exact addE rfl (by decide +kernel) (by omega)
                refine lv_istore (pc := 92) (lv' := [(4, .int v_48), (3, .int v_14), (5, .int x_17), (0, .ref M), (1, .int z_a), (2, .int z_b)]) E.1 E.2.1 dX12_wordAt_92 hl20 (by decide) rfl (fun ls hl49 => ?_)
                have loop_50 : ∀ (k : Nat) (x_51 : Int32) (H : Heap) (locs : List Loc) (ls : Array Slot), (x_7.toInt + 1 ≤ x_51.toInt) ∧ (x_51.toInt ≤ 153) ∧ (v_14.toInt + 1 = (spc x_51.toNatClampNeg : Int)) → 153 - x_51.toInt < (k : Int) → WD D A s.heap (MW cI cJ M mr mi mf mg) H locs → lv_has ls 6 [(4, .int x_51), (3, .int v_14), (0, .ref M), (1, .int z_a), (2, .int z_b)] → W p l e ({ frames := 1, cells := 0, slots := 0, locals := 40 } : Room) s m ([.ref M, .int z_a, .int z_b] : List Value).toArray below meth c H locs 0 0 (MQ below (va_Qi (fun (r : Int32) (u : Unit) => (((r : Int32).toInt = 30 → (z_a).toInt + 3 ≤ (z_b).toInt))) (fun u => QW D cI cJ A ((fun (u : Unit) => (MW cI cJ M mr mi mf mg)) u)) A) ([.ref M, .int z_a, .int z_b] : List Value).toArray s 0 0 A) (F0 m 94 ls []) := by
                  intro k
                  induction k with
                  | zero =>
                    intro x_51 _ _ _ hinv hm
                    obtain ⟨hi_51_0, hi_51_1, hi_51_2⟩ := hinv
                    exact absurd hm (by omega)
                  | succ k ih_52 =>
                    intro x_51 H locs ls hinv hm hw53 hl54
                    obtain ⟨hi_51_0, hi_51_1, hi_51_2⟩ := hinv
                    refine lv_aload_n (pc := 94) E.1 E.2.1 dX12_wordAt_94 rfl (lv_at hl54 2 rfl) ?_
                    refine x_get (pc := 95) (T := TX12) (N := 70) (ci := 12) (v := .ref (mr 26)) E hw53 inX12 0 26 q_1425 rfl rfl (by decide) rfl rfl dX12_wordAt_95 ?_
                    refine lv_iload (pc := 98) E.1 E.2.1 dX12_wordAt_98 (lv_at hl54 0 rfl) ?_
                    refine x_iald (pc := 100) (f := (mf 26)) E hw53 13 rfl (inbE (a := x_51.toInt) rfl (by omega)) dX12_wordAt_100 ?_
                    refine lv_topi (fun v_55 ev_55 => ?_)
                    refine lv_bipush (pc := 101) (v := 32) E.1 E.2.1 dX12_wordAt_101 (by decide +kernel) ?_
                    refine lv_icmp_eq (pc := 103) (tgt := 115) E.1 E.2.1 dX12_wordAt_103 (by decide) (fun c_56 => ?_) (fun c_56 => ?_)
                    · skip
                      have hc_56 := eqE (a := v_55.toInt) (b := 32) rfl (by decide +kernel) c_56
                      refine lv_goto (pc := 115) (tgt := 5) E.1 E.2.1 dX12_wordAt_115 (by decide) ?_
                      exact ih_9 x_51 v_14 _ _ _ ⟨(by show 0 ≤ x_51.toInt ∧ x_51.toInt ≤ 153; omega), (by show (-1) ≤ v_14.toInt; omega), (by show v_14.toInt + 1 ≤ x_51.toInt; omega), ⟨hi_51_2, (wd_is lf_words ev_55 (by omega)).1 (by omega)⟩⟩ (by omega) hw53 (lv_sub hl54 [0, 1, 2, 3, 4] rfl)
                    · skip
                      have hc_56 := neE (a := v_55.toInt) (b := 32) rfl (by decide +kernel) c_56
                      have hz56 := wd_stop2 ev_55 (by omega) (by omega)
                      refine lv_iload (pc := 106) E.1 E.2.1 dX12_wordAt_106 (lv_at hl54 0 rfl) ?_
                      refine lv_iconst (pc := 108) (v := 1) E.1 E.2.1 dX12_wordAt_108 (by decide +kernel) ?_
                      refine lv_iadd (pc := 109) E.1 E.2.1 dX12_wordAt_109 ?_
                      refine lv_topi (fun v_57 ev_57 => ?_)
                      have hv_57 : v_57.toInt = x_51.toInt + 1 := by rw [ev_57]; exact addE rfl (by decide +kernel) (by omega)
                      refine lv_istore (pc := 110) (lv' := [(4, .int v_57), (3, .int v_14), (0, .ref M), (1, .int z_a), (2, .int z_b)]) E.1 E.2.1 dX12_wordAt_110 hl54 (by decide) rfl (fun ls hl58 => ?_)
                      refine lv_goto (pc := 112) (tgt := 94) E.1 E.2.1 dX12_wordAt_112 (by decide) ?_
                      exact ih_52 v_57 _ _ _ ⟨(by show x_7.toInt + 1 ≤ v_57.toInt; omega), (by show v_57.toInt ≤ 153; omega), (sp_same hi_51_2 ((wd_is lf_words ev_55 (by omega)).2 (by omega)) (by omega) (by omega))⟩ (by omega) hw53 (lv_sub hl58 [0, 1, 2, 3, 4] rfl)
                exact loop_50 (Int.toNat (153 - v_48.toInt) + 1) v_48 _ _ _ ⟨(by show x_7.toInt + 1 ≤ v_48.toInt; omega), (by show v_48.toInt ≤ 153; omega), (sp_next hi_8_3.1 hi_8_3.2 (by omega) (by omega) (by omega))⟩ (by omega) hw19 (lv_sub hl49 [0, 1, 3, 4, 5] rfl)
              · skip
                have hc_45 := eqE (a := v_42.toInt) (b := v_44.toInt) rfl rfl c_45
                have hz58 := wd_stop ev_42 ev_44 (by omega) (by omega) x_let (by omega) (by omega)
                refine lv_iload (pc := 52) E.1 E.2.1 dX12_wordAt_52 (lv_at hl20 1 rfl) ?_
                refine lv_iconst (pc := 54) (v := 1) E.1 E.2.1 dX12_wordAt_54 (by decide +kernel) ?_
                refine lv_iadd (pc := 55) E.1 E.2.1 dX12_wordAt_55 ?_
                refine lv_topi (fun v_59 ev_59 => ?_)
                have hv_59 : v_59.toInt = x_17.toInt + 1 := by rw [ev_59]; exact addE rfl (by decide +kernel) (by omega)
                refine lv_istore (pc := 56) (lv' := [(5, .int v_59), (3, .int v_14), (4, .int x_7), (0, .ref M), (1, .int z_a), (2, .int z_b)]) E.1 E.2.1 dX12_wordAt_56 hl20 (by decide) rfl (fun ls hl60 => ?_)
                refine lv_goto (pc := 58) (tgt := 20) E.1 E.2.1 dX12_wordAt_58 (by decide) ?_
                exact ih_18 v_59 _ _ _ ⟨(by show 0 ≤ v_59.toInt; omega), (by show z_a.toInt + v_59.toInt ≤ z_b.toInt; omega), (by show x_7.toInt + 1 + v_59.toInt ≤ 153; omega)⟩ (by omega) hw19 (lv_sub hl60 [1, 0, 2, 3, 4, 5] rfl)
        exact loop_16 (Int.toNat (400 - 0) + 1) 0 _ _ _ ⟨(by show 0 ≤ (0 : Int32).toInt; have k_0 : (0 : Int32).toInt = 0 := (by decide +kernel); omega), (by show z_a.toInt + (0 : Int32).toInt ≤ z_b.toInt; have k_0 : (0 : Int32).toInt = 0 := (by decide +kernel); omega), (by show x_7.toInt + 1 + (0 : Int32).toInt ≤ 153; have k_0 : (0 : Int32).toInt = 0 := (by decide +kernel); omega)⟩ (by have k_0 : (0 : Int32).toInt = 0 := (by decide +kernel); omega) hw10 (lv_sub hl15 [0, 1, 2, 3, 4, 5] rfl)
  exact loop_6 (Int.toNat (153 - 0) + 1) 0 (-1) _ _ _ ⟨(by show 0 ≤ (0 : Int32).toInt ∧ (0 : Int32).toInt ≤ 153; have k_0 : (0 : Int32).toInt = 0 := (by decide +kernel); omega), (by show (-1) ≤ ((-1) : Int32).toInt; have k_0 : ((-1) : Int32).toInt = -1 := (by decide +kernel); omega), (by show ((-1) : Int32).toInt + 1 ≤ (0 : Int32).toInt; have k_0 : (0 : Int32).toInt = 0 := (by decide +kernel); have k_1 : ((-1) : Int32).toInt = -1 := (by decide +kernel); omega), (by decide +kernel)⟩ (by have k_0 : (0 : Int32).toInt = 0 := (by decide +kernel); have k_1 : ((-1) : Int32).toInt = -1 := (by decide +kernel); omega) hw1 (lv_sub hl5 [0, 1, 2, 3, 4] rfl)

set_option maxHeartbeats 4000000 in
set_option maxRecDepth 100000 in
theorem s_reads2 (l : Launch) (D : va_G) (cI cJ : ClassId) (sz M : Nat) (mr : Nat → Nat) (mi : Nat → Int32) (mf : Nat → Nat → Int32) (mg : Nat → Nat → Int64)  (h0 : 0 ≤ (mi 22).toInt) (h1 : (mi 22).toInt ≤ (mi 21).toInt) (h2 : (mi 21).toInt ≤ 400) (h3 : ((mf 26) 153).toInt = 32) (lf_words : (∀ j : Nat, j < 154 → (mf 26) j = w0 j)) : Met l yX12_reads (Cond.code yX12_reads cX12_reads 2 none :: GW) ({ frames := 3, cells := 0, slots := 0, locals := 84 } : Room) (va_Pc [.ref M] (PW D cI cJ sz (MW cI cJ M mr mi mf mg) xT)) (va_Qv (fun (u : Int32 × Int32 × Int32 × Int32) => (0 ≤ u.2.1.toInt) ∧ (u.2.1.toInt ≤ u.1.toInt) ∧ (u.1.toInt ≤ (mi 21).toInt) ∧ (0 ≤ u.2.2.1.toInt) ∧ (u.2.2.1.toInt ≤ 4) ∧ (u.2.2.1.toInt ≤ 4 * u.1.toInt - 4 * u.2.1.toInt) ∧ ((mi 22).toInt ≤ u.2.1.toInt) ∧ ((u.2.2.1.toInt = 2 → u.2.2.2.toInt = 30 → u.2.1.toInt + 3 ≤ u.1.toInt))) (fun u => QW D cI cJ (va_A (MW cI cJ M mr mi mf mg) sz) ((fun (u : Int32 × Int32 × Int32 × Int32) => (MW cI cJ M mr (upd (upd (upd (upd mi 22 u.1) 23 u.2.1) 24 u.2.2.1) 25 u.2.2.2) mf mg)) u)) (va_A (MW cI cJ M mr mi mf mg) sz)) 0 0 (va_A (MW cI cJ M mr mi mf mg) sz) := by
  refine mk_met (y := yX12_reads) (bytes := cX12_reads) (maxL := 2) (avs := [.ref M]) (WS := (MW cI cJ M mr mi mf mg)) (Qf := fun A => va_Qv (fun (u : Int32 × Int32 × Int32 × Int32) => (0 ≤ u.2.1.toInt) ∧ (u.2.1.toInt ≤ u.1.toInt) ∧ (u.1.toInt ≤ (mi 21).toInt) ∧ (0 ≤ u.2.2.1.toInt) ∧ (u.2.2.1.toInt ≤ 4) ∧ (u.2.2.1.toInt ≤ 4 * u.1.toInt - 4 * u.2.1.toInt) ∧ ((mi 22).toInt ≤ u.2.1.toInt) ∧ ((u.2.2.1.toInt = 2 → u.2.2.2.toInt = 30 → u.2.1.toInt + 3 ≤ u.1.toInt))) (fun u => QW D cI cJ A ((fun (u : Int32 × Int32 × Int32 × Int32) => (MW cI cJ M mr (upd (upd (upd (upd mi 22 u.1) 23 u.2.1) 24 u.2.2.1) 25 u.2.2.2) mf mg)) u)) A) (by decide) (Nat.le_of_ble_eq_true rfl) ?_
  intro p e s m below meth c A ls E hr hlk hnm hX hw1 hl2
  have hl3 : lv_has ls 2 [(0, .ref M)] := hl2
  have loop_4 : ∀ (k : Nat) (x_5 : Int32) (H : Heap) (locs : List Loc) (ls : Array Slot), (0 ≤ x_5.toInt) ∧ (x_5.toInt ≤ (mi 21).toInt) ∧ ((mi 22).toInt ≤ x_5.toInt) → (mi 21).toInt - x_5.toInt < (k : Int) → WD D A s.heap (MW cI cJ M mr (upd mi 22 x_5) mf mg) H locs → lv_has ls 2 [(0, .ref M)] → W p l e ({ frames := 3, cells := 0, slots := 0, locals := 84 } : Room) s m ([.ref M] : List Value).toArray below meth c H locs 0 0 (MQ below (va_Qv (fun (u : Int32 × Int32 × Int32 × Int32) => (0 ≤ u.2.1.toInt) ∧ (u.2.1.toInt ≤ u.1.toInt) ∧ (u.1.toInt ≤ (mi 21).toInt) ∧ (0 ≤ u.2.2.1.toInt) ∧ (u.2.2.1.toInt ≤ 4) ∧ (u.2.2.1.toInt ≤ 4 * u.1.toInt - 4 * u.2.1.toInt) ∧ ((mi 22).toInt ≤ u.2.1.toInt) ∧ ((u.2.2.1.toInt = 2 → u.2.2.2.toInt = 30 → u.2.1.toInt + 3 ≤ u.1.toInt))) (fun u => QW D cI cJ A ((fun (u : Int32 × Int32 × Int32 × Int32) => (MW cI cJ M mr (upd (upd (upd (upd mi 22 u.1) 23 u.2.1) 24 u.2.2.1) 25 u.2.2.2) mf mg)) u)) A) ([.ref M] : List Value).toArray s 0 0 A) (F0 m 0 ls []) := by
    intro k
    induction k with
    | zero =>
      intro x_5 _ _ _ hinv hm
      obtain ⟨hi_5_0, hi_5_1, hi_5_2⟩ := hinv
      exact absurd hm (by omega)
    | succ k ih_6 =>
      intro x_5 H locs ls hinv hm hw7 hl8
      obtain ⟨hi_5_0, hi_5_1, hi_5_2⟩ := hinv
      refine lv_aload_n (pc := 0) E.1 E.2.1 dX12_reads_0 rfl (lv_at hl8 0 rfl) ?_
      refine lv_aload_n (pc := 1) E.1 E.2.1 dX12_reads_1 rfl (lv_at hl8 0 rfl) ?_
      refine x_get (pc := 2) (T := TX12) (N := 70) (ci := 12) (v := .int x_5) E hw7 inX12 0 22 q_1421 rfl rfl (by decide) rfl rfl dX12_reads_2 ?_
      refine cm_i (pc := 5) hw7 (rn_M (As := [.int x_5]) (rest := []) E hw7 (s_raw3 l D cI cJ _ M mr (upd mi 22 x_5) mf mg x_5 (by show 0 ≤ x_5.toInt; omega) (by show 0 ≤ (mi 21).toInt ∧ (mi 21).toInt ≤ 400; omega)) (gdV q_1670 q_1672 q_53 q_162 q_1673) hdV_X12_raw ⟨rfl, rfl⟩ ⟨(Nat.le_of_ble_eq_true rfl), (Nat.le_of_ble_eq_true rfl)⟩ ⟨(Nat.le_of_ble_eq_true rfl), (Nat.le_of_ble_eq_true rfl)⟩ 12 rfl rfl rfl rfl hl8.1 rfl (Nat.le_of_ble_eq_true rfl) dX12_reads_5) (fun r_10 u_9 H1 locs hp hw11 => ?_)
      generalize H1 = H at hw11 ⊢
      have hw12 : WD D A s.heap (MW cI cJ M mr (upd mi 22 x_5) mf mg) H locs := hw11
      obtain ⟨hp_13, hp_14⟩ := hp
      have hp_13 : (x_5).toInt < (mi 21).toInt → r_10 = (mf 20) (x_5).toNatClampNeg := hp_13
      rcases hp_14 with ⟨ha_15, ha_16⟩ | ha_17
      · skip
        have ha_15 : (mi 21).toInt ≤ x_5.toInt := ha_15
        have ha_16 : r_10.toInt = (-1) := ha_16
        refine lv_bipush (pc := 8) (v := 32) E.1 E.2.1 dX12_reads_8 (by decide +kernel) ?_
        refine lv_icmp_eq (pc := 10) (tgt := 26) E.1 E.2.1 dX12_reads_10 (by decide) (fun c_18 => absurd c_18 (mneE (a := r_10.toInt) (b := 32) rfl (by decide +kernel) (by omega))) (fun _ => ?_)
        refine lv_aload_n (pc := 13) E.1 E.2.1 dX12_reads_13 rfl (lv_at hl8 0 rfl) ?_
        refine lv_aload_n (pc := 14) E.1 E.2.1 dX12_reads_14 rfl (lv_at hl8 0 rfl) ?_
        refine x_get (pc := 15) (T := TX12) (N := 70) (ci := 12) (v := .int x_5) E hw12 inX12 0 22 q_1421 rfl rfl (by decide) rfl rfl dX12_reads_15 ?_
        refine cm_i (pc := 18) hw12 (rn_M (As := [.int x_5]) (rest := []) E hw12 (s_raw3 l D cI cJ _ M mr (upd mi 22 x_5) mf mg x_5 (by show 0 ≤ x_5.toInt; omega) (by show 0 ≤ (mi 21).toInt ∧ (mi 21).toInt ≤ 400; omega)) (gdV q_1670 q_1672 q_53 q_162 q_1673) hdV_X12_raw ⟨rfl, rfl⟩ ⟨(Nat.le_of_ble_eq_true rfl), (Nat.le_of_ble_eq_true rfl)⟩ ⟨(Nat.le_of_ble_eq_true rfl), (Nat.le_of_ble_eq_true rfl)⟩ 12 rfl rfl rfl rfl hl8.1 rfl (Nat.le_of_ble_eq_true rfl) dX12_reads_18) (fun r_20 u_19 H1 locs hp hw21 => ?_)
        generalize H1 = H at hw21 ⊢
        have hw22 : WD D A s.heap (MW cI cJ M mr (upd mi 22 x_5) mf mg) H locs := hw21
        obtain ⟨hp_23, hp_24⟩ := hp
        have hp_23 : (x_5).toInt < (mi 21).toInt → r_20 = (mf 20) (x_5).toNatClampNeg := hp_23
        rcases hp_24 with ⟨ha_25, ha_26⟩ | ha_27
        · skip
          have ha_25 : (mi 21).toInt ≤ x_5.toInt := ha_25
          have ha_26 : r_20.toInt = (-1) := ha_26
          refine lv_bipush (pc := 21) (v := 10) E.1 E.2.1 dX12_reads_21 (by decide +kernel) ?_
          refine lv_icmp_ne (pc := 23) (tgt := 39) E.1 E.2.1 dX12_reads_23 (by decide) (fun _ => ?_) (fun c_28 => absurd c_28 (mneE (a := r_20.toInt) (b := 10) rfl (by decide +kernel) (by omega)))
          refine lv_aload_n (pc := 39) E.1 E.2.1 dX12_reads_39 rfl (lv_at hl8 0 rfl) ?_
          refine lv_aload_n (pc := 40) E.1 E.2.1 dX12_reads_40 rfl (lv_at hl8 0 rfl) ?_
          refine x_get (pc := 41) (T := TX12) (N := 70) (ci := 12) (v := .int x_5) E hw22 inX12 0 22 q_1421 rfl rfl (by decide) rfl rfl dX12_reads_41 ?_
          refine x_put (pc := 44) (T := TX12) (N := 70) (ci := 12) (ws' := (MW cI cJ M mr (upd (upd mi 22 x_5) 23 x_5) mf mg)) E hw22 inX12 tyX12_ok nmX12 0 23 q_1422 rfl rfl (by decide) rfl rfl rfl rfl (Nat.le_of_ble_eq_true rfl) rfl dX12_reads_44 (fun H locs hw29 => ?_)
          refine lv_aload_n (pc := 47) E.1 E.2.1 dX12_reads_47 rfl (lv_at hl8 0 rfl) ?_
          refine lv_iconst (pc := 48) (v := 1) E.1 E.2.1 dX12_reads_48 (by decide +kernel) ?_
          refine x_put (pc := 49) (T := TX12) (N := 70) (ci := 12) (ws' := (MW cI cJ M mr (upd (upd (upd mi 22 x_5) 23 x_5) 24 1) mf mg)) E hw29 inX12 tyX12_ok nmX12 0 24 q_1423 rfl rfl (by decide) rfl rfl rfl rfl (Nat.le_of_ble_eq_true rfl) rfl dX12_reads_49 (fun H locs hw30 => ?_)
          refine lv_aload_n (pc := 52) E.1 E.2.1 dX12_reads_52 rfl (lv_at hl8 0 rfl) ?_
          refine lv_aload_n (pc := 53) E.1 E.2.1 dX12_reads_53 rfl (lv_at hl8 0 rfl) ?_
          refine x_get (pc := 54) (T := TX12) (N := 70) (ci := 12) (v := .int x_5) E hw30 inX12 0 22 q_1421 rfl rfl (by decide) rfl rfl dX12_reads_54 ?_
          refine cm_i (pc := 57) hw30 (rn_M (As := [.int x_5]) (rest := []) E hw30 (s_raw3 l D cI cJ _ M mr (upd (upd (upd mi 22 x_5) 23 x_5) 24 1) mf mg x_5 (by show 0 ≤ x_5.toInt; omega) (by show 0 ≤ (mi 21).toInt ∧ (mi 21).toInt ≤ 400; omega)) (gdV q_1670 q_1672 q_53 q_162 q_1673) hdV_X12_raw ⟨rfl, rfl⟩ ⟨(Nat.le_of_ble_eq_true rfl), (Nat.le_of_ble_eq_true rfl)⟩ ⟨(Nat.le_of_ble_eq_true rfl), (Nat.le_of_ble_eq_true rfl)⟩ 12 rfl rfl rfl rfl hl8.1 rfl (Nat.le_of_ble_eq_true rfl) dX12_reads_57) (fun r_32 u_31 H1 locs hp hw33 => ?_)
          generalize H1 = H at hw33 ⊢
          have hw34 : WD D A s.heap (MW cI cJ M mr (upd (upd (upd mi 22 x_5) 23 x_5) 24 1) mf mg) H locs := hw33
          obtain ⟨hp_35, hp_36⟩ := hp
          have hp_35 : (x_5).toInt < (mi 21).toInt → r_32 = (mf 20) (x_5).toNatClampNeg := hp_35
          rcases hp_36 with ⟨ha_37, ha_38⟩ | ha_39
          · skip
            have ha_37 : (mi 21).toInt ≤ x_5.toInt := ha_37
            have ha_38 : r_32.toInt = (-1) := ha_38
            refine lv_istore_n (pc := 60) (lv' := [(1, .int r_32), (0, .ref M)]) E.1 E.2.1 dX12_reads_60 rfl hl8 (by decide) rfl (fun ls hl40 => ?_)
            refine lv_iload_n (pc := 61) E.1 E.2.1 dX12_reads_61 rfl (lv_at hl40 0 rfl) ?_
            refine lv_iconst (pc := 62) (v := (-1)) E.1 E.2.1 dX12_reads_62 (by decide +kernel) ?_
            refine lv_icmp_ne (pc := 63) (tgt := 72) E.1 E.2.1 dX12_reads_63 (by decide) (fun c_41 => absurd (meqE (a := r_32.toInt) (b := (-1)) rfl (by decide +kernel) (by omega)) c_41) (fun _ => ?_)
            refine lv_aload_n (pc := 66) E.1 E.2.1 dX12_reads_66 rfl (lv_at hl40 1 rfl) ?_
            refine lv_iconst (pc := 67) (v := 0) E.1 E.2.1 dX12_reads_67 (by decide +kernel) ?_
            refine x_put (pc := 68) (T := TX12) (N := 70) (ci := 12) (ws' := (MW cI cJ M mr (upd (upd (upd mi 22 x_5) 23 x_5) 24 0) mf mg)) E hw34 inX12 tyX12_ok nmX12 0 24 q_1423 rfl rfl (by decide) rfl rfl rfl rfl (Nat.le_of_ble_eq_true rfl) rfl dX12_reads_68 (fun H locs hw42 => ?_)
            exact em_v (w1 := (fun (u : Int32 × Int32 × Int32 × Int32) => (MW cI cJ M mr (upd (upd (upd (upd mi 22 u.1) 23 u.2.1) 24 u.2.2.1) 25 u.2.2.2) mf mg))) E hr hlk (x_5, x_5, 0, (mi 25)) hw42 ⟨(by show 0 ≤ x_5.toInt; have k_0 : (0 : Int32).toInt = 0 := (by decide +kernel); omega), (by show x_5.toInt ≤ x_5.toInt; have k_0 : (0 : Int32).toInt = 0 := (by decide +kernel); omega), (by show x_5.toInt ≤ (mi 21).toInt; have k_0 : (0 : Int32).toInt = 0 := (by decide +kernel); omega), (by show 0 ≤ (0 : Int32).toInt; have k_0 : (0 : Int32).toInt = 0 := (by decide +kernel); omega), (by show (0 : Int32).toInt ≤ 4; have k_0 : (0 : Int32).toInt = 0 := (by decide +kernel); omega), (by show (0 : Int32).toInt ≤ 4 * x_5.toInt - 4 * x_5.toInt; have k_0 : (0 : Int32).toInt = 0 := (by decide +kernel); omega), (by show (mi 22).toInt ≤ x_5.toInt; have k_0 : (0 : Int32).toInt = 0 := (by decide +kernel); omega), (show ((0 : Int32).toInt = 2 → (mi 25).toInt = 30 → x_5.toInt + 3 ≤ x_5.toInt) from (fun h => absurd h (by decide +kernel)))⟩ (Nat.le_of_ble_eq_true rfl) (Nat.le_of_ble_eq_true rfl) dX12_reads_71
          · skip
            have ha_39 : x_5.toInt ≤ (mi 21).toInt - 1 := ha_39
            exfalso; omega
        · skip
          have ha_27 : x_5.toInt ≤ (mi 21).toInt - 1 := ha_27
          exfalso; omega
      · skip
        have ha_17 : x_5.toInt ≤ (mi 21).toInt - 1 := ha_17
        refine lv_bipush (pc := 8) (v := 32) E.1 E.2.1 dX12_reads_8 (by decide +kernel) ?_
        refine lv_icmp_eq (pc := 10) (tgt := 26) E.1 E.2.1 dX12_reads_10 (by decide) (fun c_43 => ?_) (fun c_43 => ?_)
        · skip
          have hc_43 := eqE (a := r_10.toInt) (b := 32) rfl (by decide +kernel) c_43
          refine lv_aload_n (pc := 26) E.1 E.2.1 dX12_reads_26 rfl (lv_at hl8 0 rfl) ?_
          refine lv_aload_n (pc := 27) E.1 E.2.1 dX12_reads_27 rfl (lv_at hl8 0 rfl) ?_
          refine x_get (pc := 28) (T := TX12) (N := 70) (ci := 12) (v := .int x_5) E hw12 inX12 0 22 q_1421 rfl rfl (by decide) rfl rfl dX12_reads_28 ?_
          refine lv_iconst (pc := 31) (v := 1) E.1 E.2.1 dX12_reads_31 (by decide +kernel) ?_
          refine lv_iadd (pc := 32) E.1 E.2.1 dX12_reads_32 ?_
          refine lv_topi (fun v_44 ev_44 => ?_)
          have hv_44 : v_44.toInt = x_5.toInt + 1 := by rw [ev_44]; exact addE rfl (by decide +kernel) (by omega)
          refine x_put (pc := 33) (T := TX12) (N := 70) (ci := 12) (ws' := (MW cI cJ M mr (upd mi 22 v_44) mf mg)) E hw12 inX12 tyX12_ok nmX12 0 22 q_1421 rfl rfl (by decide) rfl rfl rfl rfl (Nat.le_of_ble_eq_true rfl) rfl dX12_reads_33 (fun H locs hw45 => ?_)
          refine lv_goto (pc := 36) (tgt := 0) E.1 E.2.1 dX12_reads_36 (by decide) ?_
          exact ih_6 v_44 _ _ _ ⟨(by show 0 ≤ v_44.toInt; omega), (by show v_44.toInt ≤ (mi 21).toInt; omega), (by show (mi 22).toInt ≤ v_44.toInt; omega)⟩ (by omega) hw45 (lv_sub hl8 [0] rfl)
        · skip
          have hc_43 := neE (a := r_10.toInt) (b := 32) rfl (by decide +kernel) c_43
          refine lv_aload_n (pc := 13) E.1 E.2.1 dX12_reads_13 rfl (lv_at hl8 0 rfl) ?_
          refine lv_aload_n (pc := 14) E.1 E.2.1 dX12_reads_14 rfl (lv_at hl8 0 rfl) ?_
          refine x_get (pc := 15) (T := TX12) (N := 70) (ci := 12) (v := .int x_5) E hw12 inX12 0 22 q_1421 rfl rfl (by decide) rfl rfl dX12_reads_15 ?_
          refine cm_i (pc := 18) hw12 (rn_M (As := [.int x_5]) (rest := []) E hw12 (s_raw3 l D cI cJ _ M mr (upd mi 22 x_5) mf mg x_5 (by show 0 ≤ x_5.toInt; omega) (by show 0 ≤ (mi 21).toInt ∧ (mi 21).toInt ≤ 400; omega)) (gdV q_1670 q_1672 q_53 q_162 q_1673) hdV_X12_raw ⟨rfl, rfl⟩ ⟨(Nat.le_of_ble_eq_true rfl), (Nat.le_of_ble_eq_true rfl)⟩ ⟨(Nat.le_of_ble_eq_true rfl), (Nat.le_of_ble_eq_true rfl)⟩ 12 rfl rfl rfl rfl hl8.1 rfl (Nat.le_of_ble_eq_true rfl) dX12_reads_18) (fun r_47 u_46 H1 locs hp hw48 => ?_)
          generalize H1 = H at hw48 ⊢
          have hw49 : WD D A s.heap (MW cI cJ M mr (upd mi 22 x_5) mf mg) H locs := hw48
          obtain ⟨hp_50, hp_51⟩ := hp
          have hp_50 : (x_5).toInt < (mi 21).toInt → r_47 = (mf 20) (x_5).toNatClampNeg := hp_50
          rcases hp_51 with ⟨ha_52, ha_53⟩ | ha_54
          · skip
            have ha_52 : (mi 21).toInt ≤ x_5.toInt := ha_52
            have ha_53 : r_47.toInt = (-1) := ha_53
            exfalso; omega
          · skip
            have ha_54 : x_5.toInt ≤ (mi 21).toInt - 1 := ha_54
            refine lv_bipush (pc := 21) (v := 10) E.1 E.2.1 dX12_reads_21 (by decide +kernel) ?_
            refine lv_icmp_ne (pc := 23) (tgt := 39) E.1 E.2.1 dX12_reads_23 (by decide) (fun c_55 => ?_) (fun c_55 => ?_)
            · skip
              have hc_55 := neE (a := r_47.toInt) (b := 10) rfl (by decide +kernel) c_55
              refine lv_aload_n (pc := 39) E.1 E.2.1 dX12_reads_39 rfl (lv_at hl8 0 rfl) ?_
              refine lv_aload_n (pc := 40) E.1 E.2.1 dX12_reads_40 rfl (lv_at hl8 0 rfl) ?_
              refine x_get (pc := 41) (T := TX12) (N := 70) (ci := 12) (v := .int x_5) E hw49 inX12 0 22 q_1421 rfl rfl (by decide) rfl rfl dX12_reads_41 ?_
              refine x_put (pc := 44) (T := TX12) (N := 70) (ci := 12) (ws' := (MW cI cJ M mr (upd (upd mi 22 x_5) 23 x_5) mf mg)) E hw49 inX12 tyX12_ok nmX12 0 23 q_1422 rfl rfl (by decide) rfl rfl rfl rfl (Nat.le_of_ble_eq_true rfl) rfl dX12_reads_44 (fun H locs hw56 => ?_)
              refine lv_aload_n (pc := 47) E.1 E.2.1 dX12_reads_47 rfl (lv_at hl8 0 rfl) ?_
              refine lv_iconst (pc := 48) (v := 1) E.1 E.2.1 dX12_reads_48 (by decide +kernel) ?_
              refine x_put (pc := 49) (T := TX12) (N := 70) (ci := 12) (ws' := (MW cI cJ M mr (upd (upd (upd mi 22 x_5) 23 x_5) 24 1) mf mg)) E hw56 inX12 tyX12_ok nmX12 0 24 q_1423 rfl rfl (by decide) rfl rfl rfl rfl (Nat.le_of_ble_eq_true rfl) rfl dX12_reads_49 (fun H locs hw57 => ?_)
              refine lv_aload_n (pc := 52) E.1 E.2.1 dX12_reads_52 rfl (lv_at hl8 0 rfl) ?_
              refine lv_aload_n (pc := 53) E.1 E.2.1 dX12_reads_53 rfl (lv_at hl8 0 rfl) ?_
              refine x_get (pc := 54) (T := TX12) (N := 70) (ci := 12) (v := .int x_5) E hw57 inX12 0 22 q_1421 rfl rfl (by decide) rfl rfl dX12_reads_54 ?_
              refine cm_i (pc := 57) hw57 (rn_M (As := [.int x_5]) (rest := []) E hw57 (s_raw3 l D cI cJ _ M mr (upd (upd (upd mi 22 x_5) 23 x_5) 24 1) mf mg x_5 (by show 0 ≤ x_5.toInt; omega) (by show 0 ≤ (mi 21).toInt ∧ (mi 21).toInt ≤ 400; omega)) (gdV q_1670 q_1672 q_53 q_162 q_1673) hdV_X12_raw ⟨rfl, rfl⟩ ⟨(Nat.le_of_ble_eq_true rfl), (Nat.le_of_ble_eq_true rfl)⟩ ⟨(Nat.le_of_ble_eq_true rfl), (Nat.le_of_ble_eq_true rfl)⟩ 12 rfl rfl rfl rfl hl8.1 rfl (Nat.le_of_ble_eq_true rfl) dX12_reads_57) (fun r_59 u_58 H1 locs hp hw60 => ?_)
              generalize H1 = H at hw60 ⊢
              have hw61 : WD D A s.heap (MW cI cJ M mr (upd (upd (upd mi 22 x_5) 23 x_5) 24 1) mf mg) H locs := hw60
              obtain ⟨hp_62, hp_63⟩ := hp
              have hp_62 : (x_5).toInt < (mi 21).toInt → r_59 = (mf 20) (x_5).toNatClampNeg := hp_62
              rcases hp_63 with ⟨ha_64, ha_65⟩ | ha_66
              · skip
                have ha_64 : (mi 21).toInt ≤ x_5.toInt := ha_64
                have ha_65 : r_59.toInt = (-1) := ha_65
                exfalso; omega
              · skip
                have ha_66 : x_5.toInt ≤ (mi 21).toInt - 1 := ha_66
                refine lv_istore_n (pc := 60) (lv' := [(1, .int r_59), (0, .ref M)]) E.1 E.2.1 dX12_reads_60 rfl hl8 (by decide) rfl (fun ls hl67 => ?_)
                refine lv_iload_n (pc := 61) E.1 E.2.1 dX12_reads_61 rfl (lv_at hl67 0 rfl) ?_
                refine lv_iconst (pc := 62) (v := (-1)) E.1 E.2.1 dX12_reads_62 (by decide +kernel) ?_
                refine lv_icmp_ne (pc := 63) (tgt := 72) E.1 E.2.1 dX12_reads_63 (by decide) (fun c_68 => ?_) (fun c_68 => ?_)
                · skip
                  have hc_68 := neE (a := r_59.toInt) (b := (-1)) rfl (by decide +kernel) c_68
                  refine lv_aload_n (pc := 72) E.1 E.2.1 dX12_reads_72 rfl (lv_at hl67 1 rfl) ?_
                  refine lv_aload_n (pc := 73) E.1 E.2.1 dX12_reads_73 rfl (lv_at hl67 1 rfl) ?_
                  refine x_get (pc := 74) (T := TX12) (N := 70) (ci := 12) (v := .int x_5) E hw61 inX12 0 22 q_1421 rfl rfl (by decide) rfl rfl dX12_reads_74 ?_
                  refine lv_iconst (pc := 77) (v := 1) E.1 E.2.1 dX12_reads_77 (by decide +kernel) ?_
                  refine lv_iadd (pc := 78) E.1 E.2.1 dX12_reads_78 ?_
                  refine lv_topi (fun v_69 ev_69 => ?_)
                  have hv_69 : v_69.toInt = x_5.toInt + 1 := by rw [ev_69]; exact addE rfl (by decide +kernel) (by omega)
                  refine x_put (pc := 79) (T := TX12) (N := 70) (ci := 12) (ws' := (MW cI cJ M mr (upd (upd (upd mi 22 v_69) 23 x_5) 24 1) mf mg)) E hw61 inX12 tyX12_ok nmX12 0 22 q_1421 rfl rfl (by decide) rfl rfl rfl rfl (Nat.le_of_ble_eq_true rfl) rfl dX12_reads_79 (fun H locs hw70 => ?_)
                  refine lv_aload_n (pc := 82) E.1 E.2.1 dX12_reads_82 rfl (lv_at hl67 1 rfl) ?_
                  refine lv_iload_n (pc := 83) E.1 E.2.1 dX12_reads_83 rfl (lv_at hl67 0 rfl) ?_
                  refine x_put (pc := 84) (T := TX12) (N := 70) (ci := 12) (ws' := (MW cI cJ M mr (upd (upd (upd (upd mi 22 v_69) 23 x_5) 24 1) 25 r_59) mf mg)) E hw70 inX12 tyX12_ok nmX12 0 25 q_1424 rfl rfl (by decide) rfl rfl rfl rfl (Nat.le_of_ble_eq_true rfl) rfl dX12_reads_84 (fun H locs hw71 => ?_)
                  refine lv_aload_n (pc := 87) E.1 E.2.1 dX12_reads_87 rfl (lv_at hl67 1 rfl) ?_
                  refine lv_iload_n (pc := 88) E.1 E.2.1 dX12_reads_88 rfl (lv_at hl67 0 rfl) ?_
                  refine cm_i (pc := 89) hw71 (rn_M (As := [.int r_59]) (rest := []) E hw71 (s_isLetter2 l D cI cJ _ M mr (upd (upd (upd (upd mi 22 v_69) 23 x_5) 24 1) 25 r_59) mf mg r_59) (gdV q_1674 q_1676 q_54 q_162 q_1677) hdV_X12_isLetter ⟨rfl, rfl⟩ ⟨(Nat.le_of_ble_eq_true rfl), (Nat.le_of_ble_eq_true rfl)⟩ ⟨(Nat.le_of_ble_eq_true rfl), (Nat.le_of_ble_eq_true rfl)⟩ 12 rfl rfl rfl rfl hl67.1 rfl (Nat.le_of_ble_eq_true rfl) dX12_reads_89) (fun r_73 u_72 H1 locs hp hw74 => ?_)
                  generalize H1 = H at hw74 ⊢
                  have hw75 : WD D A s.heap (MW cI cJ M mr (upd (upd (upd (upd mi 22 v_69) 23 x_5) 24 1) 25 r_59) mf mg) H locs := hw74
                  have hp_76 := hp
                  rcases hp_76 with ⟨rfl, ha_77, ha_78⟩ | rfl
                  · skip
                    have ha_77 : 65 ≤ r_59.toInt := ha_77
                    have ha_78 : r_59.toInt ≤ 122 := ha_78
                    refine lv_if_eq (pc := 92) (tgt := 155) E.1 E.2.1 dX12_reads_92 (by decide) (fun c_79 => absurd c_79 (mneE (a := 1) (b := 0) (by decide +kernel) (by decide +kernel) (by omega))) (fun _ => ?_)
                    have loop_80 : ∀ (k : Nat) (x_81 : Int32) (H : Heap) (locs : List Loc) (ls : Array Slot), (x_5.toInt + 1 ≤ x_81.toInt) ∧ (x_81.toInt ≤ (mi 21).toInt) ∧ (LT (mf 20) x_5.toInt x_81.toInt) → (mi 21).toInt - x_81.toInt < (k : Int) → WD D A s.heap (MW cI cJ M mr (upd (upd (upd (upd mi 22 x_81) 23 x_5) 24 1) 25 r_59) mf mg) H locs → lv_has ls 2 [(1, .int r_59), (0, .ref M)] → W p l e ({ frames := 3, cells := 0, slots := 0, locals := 84 } : Room) s m ([.ref M] : List Value).toArray below meth c H locs 0 0 (MQ below (va_Qv (fun (u : Int32 × Int32 × Int32 × Int32) => (0 ≤ u.2.1.toInt) ∧ (u.2.1.toInt ≤ u.1.toInt) ∧ (u.1.toInt ≤ (mi 21).toInt) ∧ (0 ≤ u.2.2.1.toInt) ∧ (u.2.2.1.toInt ≤ 4) ∧ (u.2.2.1.toInt ≤ 4 * u.1.toInt - 4 * u.2.1.toInt) ∧ ((mi 22).toInt ≤ u.2.1.toInt) ∧ ((u.2.2.1.toInt = 2 → u.2.2.2.toInt = 30 → u.2.1.toInt + 3 ≤ u.1.toInt))) (fun u => QW D cI cJ A ((fun (u : Int32 × Int32 × Int32 × Int32) => (MW cI cJ M mr (upd (upd (upd (upd mi 22 u.1) 23 u.2.1) 24 u.2.2.1) 25 u.2.2.2) mf mg)) u)) A) ([.ref M] : List Value).toArray s 0 0 A) (F0 m 95 ls []) := by
                      intro k
                      induction k with
                      | zero =>
                        intro x_81 _ _ _ hinv hm
                        obtain ⟨hi_81_0, hi_81_1, hi_81_2⟩ := hinv
                        exact absurd hm (by omega)
                      | succ k ih_82 =>
                        intro x_81 H locs ls hinv hm hw83 hl84
                        obtain ⟨hi_81_0, hi_81_1, hi_81_2⟩ := hinv
                        refine lv_aload_n (pc := 95) E.1 E.2.1 dX12_reads_95 rfl (lv_at hl84 1 rfl) ?_
                        refine lv_aload_n (pc := 96) E.1 E.2.1 dX12_reads_96 rfl (lv_at hl84 1 rfl) ?_
                        refine lv_aload_n (pc := 97) E.1 E.2.1 dX12_reads_97 rfl (lv_at hl84 1 rfl) ?_
                        refine x_get (pc := 98) (T := TX12) (N := 70) (ci := 12) (v := .int x_81) E hw83 inX12 0 22 q_1421 rfl rfl (by decide) rfl rfl dX12_reads_98 ?_
                        refine cm_i (pc := 101) hw83 (rn_M (As := [.int x_81]) (rest := [.ref M]) E hw83 (s_raw3 l D cI cJ _ M mr (upd (upd (upd (upd mi 22 x_81) 23 x_5) 24 1) 25 r_59) mf mg x_81 (by show 0 ≤ x_81.toInt; omega) (by show 0 ≤ (mi 21).toInt ∧ (mi 21).toInt ≤ 400; omega)) (gdV q_1670 q_1672 q_53 q_162 q_1673) hdV_X12_raw ⟨rfl, rfl⟩ ⟨(Nat.le_of_ble_eq_true rfl), (Nat.le_of_ble_eq_true rfl)⟩ ⟨(Nat.le_of_ble_eq_true rfl), (Nat.le_of_ble_eq_true rfl)⟩ 12 rfl rfl rfl rfl hl84.1 rfl (Nat.le_of_ble_eq_true rfl) dX12_reads_101) (fun r_86 u_85 H1 locs hp hw87 => ?_)
                        generalize H1 = H at hw87 ⊢
                        have hw88 : WD D A s.heap (MW cI cJ M mr (upd (upd (upd (upd mi 22 x_81) 23 x_5) 24 1) 25 r_59) mf mg) H locs := hw87
                        obtain ⟨hp_89, hp_90⟩ := hp
                        have hp_89 : (x_81).toInt < (mi 21).toInt → r_86 = (mf 20) (x_81).toNatClampNeg := hp_89
                        rcases hp_90 with ⟨ha_91, ha_92⟩ | ha_93
                        · skip
                          have ha_91 : (mi 21).toInt ≤ x_81.toInt := ha_91
                          have ha_92 : r_86.toInt = (-1) := ha_92
                          refine cm_i (pc := 104) hw88 (rn_M (As := [.int r_86]) (rest := []) E hw88 (s_isLetter2 l D cI cJ _ M mr (upd (upd (upd (upd mi 22 x_81) 23 x_5) 24 1) 25 r_59) mf mg r_86) (gdV q_1674 q_1676 q_54 q_162 q_1677) hdV_X12_isLetter ⟨rfl, rfl⟩ ⟨(Nat.le_of_ble_eq_true rfl), (Nat.le_of_ble_eq_true rfl)⟩ ⟨(Nat.le_of_ble_eq_true rfl), (Nat.le_of_ble_eq_true rfl)⟩ 12 rfl rfl rfl rfl hl84.1 rfl (Nat.le_of_ble_eq_true rfl) dX12_reads_104) (fun r_95 u_94 H1 locs hp hw96 => ?_)
                          generalize H1 = H at hw96 ⊢
                          have hw97 : WD D A s.heap (MW cI cJ M mr (upd (upd (upd (upd mi 22 x_81) 23 x_5) 24 1) 25 r_59) mf mg) H locs := hw96
                          have hp_98 := hp
                          rcases hp_98 with ⟨rfl, ha_99, ha_100⟩ | rfl
                          · skip
                            have ha_99 : 65 ≤ r_86.toInt := ha_99
                            have ha_100 : r_86.toInt ≤ 122 := ha_100
                            exfalso; omega
                          · skip
                            refine lv_if_eq (pc := 107) (tgt := 123) E.1 E.2.1 dX12_reads_107 (by decide) (fun _ => ?_) (fun c_101 => absurd (meqE (a := 0) (b := 0) (by decide +kernel) (by decide +kernel) (by omega)) c_101)
                            refine lv_aload_n (pc := 123) E.1 E.2.1 dX12_reads_123 rfl (lv_at hl84 1 rfl) ?_
                            refine lv_aload_n (pc := 124) E.1 E.2.1 dX12_reads_124 rfl (lv_at hl84 1 rfl) ?_
                            refine lv_aload_n (pc := 125) E.1 E.2.1 dX12_reads_125 rfl (lv_at hl84 1 rfl) ?_
                            refine x_get (pc := 126) (T := TX12) (N := 70) (ci := 12) (v := .int x_5) E hw97 inX12 0 23 q_1422 rfl rfl (by decide) rfl rfl dX12_reads_126 ?_
                            refine lv_aload_n (pc := 129) E.1 E.2.1 dX12_reads_129 rfl (lv_at hl84 1 rfl) ?_
                            refine x_get (pc := 130) (T := TX12) (N := 70) (ci := 12) (v := .int x_81) E hw97 inX12 0 22 q_1421 rfl rfl (by decide) rfl rfl dX12_reads_130 ?_
                            refine cm_i (pc := 133) hw97 (rn_M (As := [.int x_5, .int x_81]) (rest := [.ref M]) E hw97 (s_wordAt2 l D cI cJ _ M mr (upd (upd (upd (upd mi 22 x_81) 23 x_5) 24 1) 25 r_59) mf mg x_5 x_81 (by show 0 ≤ x_5.toInt; omega) (by show x_5.toInt ≤ x_81.toInt; omega) (by show x_81.toInt ≤ 400; omega) (by show ((mf 26) 153).toInt = 32; omega) (show (∀ j : Nat, j < 154 → (mf 26) j = w0 j) from lf_words) (show LT (mf 20) (x_5).toInt (x_81).toInt from hi_81_2)) (gdV q_1678 q_1680 q_55 q_162 q_1681) hdV_X12_wordAt ⟨rfl, rfl⟩ ⟨(Nat.le_of_ble_eq_true rfl), (Nat.le_of_ble_eq_true rfl)⟩ ⟨(Nat.le_of_ble_eq_true rfl), (Nat.le_of_ble_eq_true rfl)⟩ 12 rfl rfl rfl rfl hl84.1 rfl (Nat.le_of_ble_eq_true rfl) dX12_reads_133) (fun r_103 u_102 H1 locs hp hw104 => ?_)
                            generalize H1 = H at hw104 ⊢
                            have hw105 : WD D A s.heap (MW cI cJ M mr (upd (upd (upd (upd mi 22 x_81) 23 x_5) 24 1) 25 r_59) mf mg) H locs := hw104
                            have hp_106 := hp
                            have hp_106 : ((r_103 : Int32).toInt = 30 → (x_5).toInt + 3 ≤ (x_81).toInt) := hp_106
                            refine x_put (pc := 136) (T := TX12) (N := 70) (ci := 12) (ws' := (MW cI cJ M mr (upd (upd (upd (upd mi 22 x_81) 23 x_5) 24 1) 25 r_103) mf mg)) E hw105 inX12 tyX12_ok nmX12 0 25 q_1424 rfl rfl (by decide) rfl rfl rfl rfl (Nat.le_of_ble_eq_true rfl) rfl dX12_reads_136 (fun H locs hw107 => ?_)
                            refine lv_aload_n (pc := 139) E.1 E.2.1 dX12_reads_139 rfl (lv_at hl84 1 rfl) ?_
                            refine x_get (pc := 140) (T := TX12) (N := 70) (ci := 12) (v := .int r_103) E hw107 inX12 0 25 q_1424 rfl rfl (by decide) rfl rfl dX12_reads_140 ?_
                            refine lv_iconst (pc := 143) (v := (-1)) E.1 E.2.1 dX12_reads_143 (by decide +kernel) ?_
                            refine lv_icmp_eq (pc := 144) (tgt := 273) E.1 E.2.1 dX12_reads_144 (by decide) (fun c_108 => ?_) (fun c_108 => ?_)
                            · skip
                              have hc_108 := eqE (a := r_103.toInt) (b := (-1)) rfl (by decide +kernel) c_108
                              exact em_v (w1 := (fun (u : Int32 × Int32 × Int32 × Int32) => (MW cI cJ M mr (upd (upd (upd (upd mi 22 u.1) 23 u.2.1) 24 u.2.2.1) 25 u.2.2.2) mf mg))) E hr hlk (x_81, x_5, 1, r_103) hw107 ⟨(by show 0 ≤ x_5.toInt; have k_0 : (1 : Int32).toInt = 1 := (by decide +kernel); omega), (by show x_5.toInt ≤ x_81.toInt; have k_0 : (1 : Int32).toInt = 1 := (by decide +kernel); omega), (by show x_81.toInt ≤ (mi 21).toInt; have k_0 : (1 : Int32).toInt = 1 := (by decide +kernel); omega), (by show 0 ≤ (1 : Int32).toInt; have k_0 : (1 : Int32).toInt = 1 := (by decide +kernel); omega), (by show (1 : Int32).toInt ≤ 4; have k_0 : (1 : Int32).toInt = 1 := (by decide +kernel); omega), (by show (1 : Int32).toInt ≤ 4 * x_81.toInt - 4 * x_5.toInt; have k_0 : (1 : Int32).toInt = 1 := (by decide +kernel); omega), (by show (mi 22).toInt ≤ x_5.toInt; have k_0 : (1 : Int32).toInt = 1 := (by decide +kernel); omega), (show ((1 : Int32).toInt = 2 → r_103.toInt = 30 → x_5.toInt + 3 ≤ x_81.toInt) from (fun h => absurd h (by decide +kernel)))⟩ (Nat.le_of_ble_eq_true rfl) (Nat.le_of_ble_eq_true rfl) dX12_reads_273
                            · skip
                              have hc_108 := neE (a := r_103.toInt) (b := (-1)) rfl (by decide +kernel) c_108
                              refine lv_aload_n (pc := 147) E.1 E.2.1 dX12_reads_147 rfl (lv_at hl84 1 rfl) ?_
                              refine lv_iconst (pc := 148) (v := 2) E.1 E.2.1 dX12_reads_148 (by decide +kernel) ?_
                              refine x_put (pc := 149) (T := TX12) (N := 70) (ci := 12) (ws' := (MW cI cJ M mr (upd (upd (upd (upd mi 22 x_81) 23 x_5) 24 2) 25 r_103) mf mg)) E hw107 inX12 tyX12_ok nmX12 0 24 q_1423 rfl rfl (by decide) rfl rfl rfl rfl (Nat.le_of_ble_eq_true rfl) rfl dX12_reads_149 (fun H locs hw109 => ?_)
                              refine lv_goto (pc := 152) (tgt := 273) E.1 E.2.1 dX12_reads_152 (by decide) ?_
                              exact em_v (w1 := (fun (u : Int32 × Int32 × Int32 × Int32) => (MW cI cJ M mr (upd (upd (upd (upd mi 22 u.1) 23 u.2.1) 24 u.2.2.1) 25 u.2.2.2) mf mg))) E hr hlk (x_81, x_5, 2, r_103) hw109 ⟨(by show 0 ≤ x_5.toInt; have k_0 : (2 : Int32).toInt = 2 := (by decide +kernel); omega), (by show x_5.toInt ≤ x_81.toInt; have k_0 : (2 : Int32).toInt = 2 := (by decide +kernel); omega), (by show x_81.toInt ≤ (mi 21).toInt; have k_0 : (2 : Int32).toInt = 2 := (by decide +kernel); omega), (by show 0 ≤ (2 : Int32).toInt; have k_0 : (2 : Int32).toInt = 2 := (by decide +kernel); omega), (by show (2 : Int32).toInt ≤ 4; have k_0 : (2 : Int32).toInt = 2 := (by decide +kernel); omega), (by show (2 : Int32).toInt ≤ 4 * x_81.toInt - 4 * x_5.toInt; have k_0 : (2 : Int32).toInt = 2 := (by decide +kernel); omega), (by show (mi 22).toInt ≤ x_5.toInt; have k_0 : (2 : Int32).toInt = 2 := (by decide +kernel); omega), (show ((2 : Int32).toInt = 2 → r_103.toInt = 30 → x_5.toInt + 3 ≤ x_81.toInt) from (fun _ => hp_106))⟩ (Nat.le_of_ble_eq_true rfl) (Nat.le_of_ble_eq_true rfl) dX12_reads_273
                        · skip
                          have ha_93 : x_81.toInt ≤ (mi 21).toInt - 1 := ha_93
                          refine cm_i (pc := 104) hw88 (rn_M (As := [.int r_86]) (rest := []) E hw88 (s_isLetter2 l D cI cJ _ M mr (upd (upd (upd (upd mi 22 x_81) 23 x_5) 24 1) 25 r_59) mf mg r_86) (gdV q_1674 q_1676 q_54 q_162 q_1677) hdV_X12_isLetter ⟨rfl, rfl⟩ ⟨(Nat.le_of_ble_eq_true rfl), (Nat.le_of_ble_eq_true rfl)⟩ ⟨(Nat.le_of_ble_eq_true rfl), (Nat.le_of_ble_eq_true rfl)⟩ 12 rfl rfl rfl rfl hl84.1 rfl (Nat.le_of_ble_eq_true rfl) dX12_reads_104) (fun r_111 u_110 H1 locs hp hw112 => ?_)
                          generalize H1 = H at hw112 ⊢
                          have hw113 : WD D A s.heap (MW cI cJ M mr (upd (upd (upd (upd mi 22 x_81) 23 x_5) 24 1) 25 r_59) mf mg) H locs := hw112
                          have hp_114 := hp
                          rcases hp_114 with ⟨rfl, ha_115, ha_116⟩ | rfl
                          · skip
                            have ha_115 : 65 ≤ r_86.toInt := ha_115
                            have ha_116 : r_86.toInt ≤ 122 := ha_116
                            refine lv_if_eq (pc := 107) (tgt := 123) E.1 E.2.1 dX12_reads_107 (by decide) (fun c_117 => absurd c_117 (mneE (a := 1) (b := 0) (by decide +kernel) (by decide +kernel) (by omega))) (fun _ => ?_)
                            refine lv_aload_n (pc := 110) E.1 E.2.1 dX12_reads_110 rfl (lv_at hl84 1 rfl) ?_
                            refine lv_aload_n (pc := 111) E.1 E.2.1 dX12_reads_111 rfl (lv_at hl84 1 rfl) ?_
                            refine x_get (pc := 112) (T := TX12) (N := 70) (ci := 12) (v := .int x_81) E hw113 inX12 0 22 q_1421 rfl rfl (by decide) rfl rfl dX12_reads_112 ?_
                            refine lv_iconst (pc := 115) (v := 1) E.1 E.2.1 dX12_reads_115 (by decide +kernel) ?_
                            refine lv_iadd (pc := 116) E.1 E.2.1 dX12_reads_116 ?_
                            refine lv_topi (fun v_118 ev_118 => ?_)
                            have hv_118 : v_118.toInt = x_81.toInt + 1 := by rw [ev_118]; exact addE rfl (by decide +kernel) (by omega)
                            refine x_put (pc := 117) (T := TX12) (N := 70) (ci := 12) (ws' := (MW cI cJ M mr (upd (upd (upd (upd mi 22 v_118) 23 x_5) 24 1) 25 r_59) mf mg)) E hw113 inX12 tyX12_ok nmX12 0 22 q_1421 rfl rfl (by decide) rfl rfl rfl rfl (Nat.le_of_ble_eq_true rfl) rfl dX12_reads_117 (fun H locs hw119 => ?_)
                            refine lv_goto (pc := 120) (tgt := 95) E.1 E.2.1 dX12_reads_120 (by decide) ?_
                            exact ih_82 v_118 _ _ _ ⟨(by show x_5.toInt + 1 ≤ v_118.toInt; omega), (by show v_118.toInt ≤ (mi 21).toInt; omega), (LT_step (i := x_81) (v := r_86) hi_81_2 (hp_89 (by omega)) (by omega) (by omega) (by omega) (by omega))⟩ (by omega) hw119 (lv_sub hl84 [0, 1] rfl)
                          · skip
                            refine lv_if_eq (pc := 107) (tgt := 123) E.1 E.2.1 dX12_reads_107 (by decide) (fun _ => ?_) (fun c_120 => absurd (meqE (a := 0) (b := 0) (by decide +kernel) (by decide +kernel) (by omega)) c_120)
                            refine lv_aload_n (pc := 123) E.1 E.2.1 dX12_reads_123 rfl (lv_at hl84 1 rfl) ?_
                            refine lv_aload_n (pc := 124) E.1 E.2.1 dX12_reads_124 rfl (lv_at hl84 1 rfl) ?_
                            refine lv_aload_n (pc := 125) E.1 E.2.1 dX12_reads_125 rfl (lv_at hl84 1 rfl) ?_
                            refine x_get (pc := 126) (T := TX12) (N := 70) (ci := 12) (v := .int x_5) E hw113 inX12 0 23 q_1422 rfl rfl (by decide) rfl rfl dX12_reads_126 ?_
                            refine lv_aload_n (pc := 129) E.1 E.2.1 dX12_reads_129 rfl (lv_at hl84 1 rfl) ?_
                            refine x_get (pc := 130) (T := TX12) (N := 70) (ci := 12) (v := .int x_81) E hw113 inX12 0 22 q_1421 rfl rfl (by decide) rfl rfl dX12_reads_130 ?_
                            refine cm_i (pc := 133) hw113 (rn_M (As := [.int x_5, .int x_81]) (rest := [.ref M]) E hw113 (s_wordAt2 l D cI cJ _ M mr (upd (upd (upd (upd mi 22 x_81) 23 x_5) 24 1) 25 r_59) mf mg x_5 x_81 (by show 0 ≤ x_5.toInt; omega) (by show x_5.toInt ≤ x_81.toInt; omega) (by show x_81.toInt ≤ 400; omega) (by show ((mf 26) 153).toInt = 32; omega) (show (∀ j : Nat, j < 154 → (mf 26) j = w0 j) from lf_words) (show LT (mf 20) (x_5).toInt (x_81).toInt from hi_81_2)) (gdV q_1678 q_1680 q_55 q_162 q_1681) hdV_X12_wordAt ⟨rfl, rfl⟩ ⟨(Nat.le_of_ble_eq_true rfl), (Nat.le_of_ble_eq_true rfl)⟩ ⟨(Nat.le_of_ble_eq_true rfl), (Nat.le_of_ble_eq_true rfl)⟩ 12 rfl rfl rfl rfl hl84.1 rfl (Nat.le_of_ble_eq_true rfl) dX12_reads_133) (fun r_122 u_121 H1 locs hp hw123 => ?_)
                            generalize H1 = H at hw123 ⊢
                            have hw124 : WD D A s.heap (MW cI cJ M mr (upd (upd (upd (upd mi 22 x_81) 23 x_5) 24 1) 25 r_59) mf mg) H locs := hw123
                            have hp_125 := hp
                            have hp_125 : ((r_122 : Int32).toInt = 30 → (x_5).toInt + 3 ≤ (x_81).toInt) := hp_125
                            refine x_put (pc := 136) (T := TX12) (N := 70) (ci := 12) (ws' := (MW cI cJ M mr (upd (upd (upd (upd mi 22 x_81) 23 x_5) 24 1) 25 r_122) mf mg)) E hw124 inX12 tyX12_ok nmX12 0 25 q_1424 rfl rfl (by decide) rfl rfl rfl rfl (Nat.le_of_ble_eq_true rfl) rfl dX12_reads_136 (fun H locs hw126 => ?_)
                            refine lv_aload_n (pc := 139) E.1 E.2.1 dX12_reads_139 rfl (lv_at hl84 1 rfl) ?_
                            refine x_get (pc := 140) (T := TX12) (N := 70) (ci := 12) (v := .int r_122) E hw126 inX12 0 25 q_1424 rfl rfl (by decide) rfl rfl dX12_reads_140 ?_
                            refine lv_iconst (pc := 143) (v := (-1)) E.1 E.2.1 dX12_reads_143 (by decide +kernel) ?_
                            refine lv_icmp_eq (pc := 144) (tgt := 273) E.1 E.2.1 dX12_reads_144 (by decide) (fun c_127 => ?_) (fun c_127 => ?_)
                            · skip
                              have hc_127 := eqE (a := r_122.toInt) (b := (-1)) rfl (by decide +kernel) c_127
                              exact em_v (w1 := (fun (u : Int32 × Int32 × Int32 × Int32) => (MW cI cJ M mr (upd (upd (upd (upd mi 22 u.1) 23 u.2.1) 24 u.2.2.1) 25 u.2.2.2) mf mg))) E hr hlk (x_81, x_5, 1, r_122) hw126 ⟨(by show 0 ≤ x_5.toInt; have k_0 : (1 : Int32).toInt = 1 := (by decide +kernel); omega), (by show x_5.toInt ≤ x_81.toInt; have k_0 : (1 : Int32).toInt = 1 := (by decide +kernel); omega), (by show x_81.toInt ≤ (mi 21).toInt; have k_0 : (1 : Int32).toInt = 1 := (by decide +kernel); omega), (by show 0 ≤ (1 : Int32).toInt; have k_0 : (1 : Int32).toInt = 1 := (by decide +kernel); omega), (by show (1 : Int32).toInt ≤ 4; have k_0 : (1 : Int32).toInt = 1 := (by decide +kernel); omega), (by show (1 : Int32).toInt ≤ 4 * x_81.toInt - 4 * x_5.toInt; have k_0 : (1 : Int32).toInt = 1 := (by decide +kernel); omega), (by show (mi 22).toInt ≤ x_5.toInt; have k_0 : (1 : Int32).toInt = 1 := (by decide +kernel); omega), (show ((1 : Int32).toInt = 2 → r_122.toInt = 30 → x_5.toInt + 3 ≤ x_81.toInt) from (fun h => absurd h (by decide +kernel)))⟩ (Nat.le_of_ble_eq_true rfl) (Nat.le_of_ble_eq_true rfl) dX12_reads_273
                            · skip
                              have hc_127 := neE (a := r_122.toInt) (b := (-1)) rfl (by decide +kernel) c_127
                              refine lv_aload_n (pc := 147) E.1 E.2.1 dX12_reads_147 rfl (lv_at hl84 1 rfl) ?_
                              refine lv_iconst (pc := 148) (v := 2) E.1 E.2.1 dX12_reads_148 (by decide +kernel) ?_
                              refine x_put (pc := 149) (T := TX12) (N := 70) (ci := 12) (ws' := (MW cI cJ M mr (upd (upd (upd (upd mi 22 x_81) 23 x_5) 24 2) 25 r_122) mf mg)) E hw126 inX12 tyX12_ok nmX12 0 24 q_1423 rfl rfl (by decide) rfl rfl rfl rfl (Nat.le_of_ble_eq_true rfl) rfl dX12_reads_149 (fun H locs hw128 => ?_)
                              refine lv_goto (pc := 152) (tgt := 273) E.1 E.2.1 dX12_reads_152 (by decide) ?_
                              exact em_v (w1 := (fun (u : Int32 × Int32 × Int32 × Int32) => (MW cI cJ M mr (upd (upd (upd (upd mi 22 u.1) 23 u.2.1) 24 u.2.2.1) 25 u.2.2.2) mf mg))) E hr hlk (x_81, x_5, 2, r_122) hw128 ⟨(by show 0 ≤ x_5.toInt; have k_0 : (2 : Int32).toInt = 2 := (by decide +kernel); omega), (by show x_5.toInt ≤ x_81.toInt; have k_0 : (2 : Int32).toInt = 2 := (by decide +kernel); omega), (by show x_81.toInt ≤ (mi 21).toInt; have k_0 : (2 : Int32).toInt = 2 := (by decide +kernel); omega), (by show 0 ≤ (2 : Int32).toInt; have k_0 : (2 : Int32).toInt = 2 := (by decide +kernel); omega), (by show (2 : Int32).toInt ≤ 4; have k_0 : (2 : Int32).toInt = 2 := (by decide +kernel); omega), (by show (2 : Int32).toInt ≤ 4 * x_81.toInt - 4 * x_5.toInt; have k_0 : (2 : Int32).toInt = 2 := (by decide +kernel); omega), (by show (mi 22).toInt ≤ x_5.toInt; have k_0 : (2 : Int32).toInt = 2 := (by decide +kernel); omega), (show ((2 : Int32).toInt = 2 → r_122.toInt = 30 → x_5.toInt + 3 ≤ x_81.toInt) from (fun _ => hp_125))⟩ (Nat.le_of_ble_eq_true rfl) (Nat.le_of_ble_eq_true rfl) dX12_reads_273
                    exact loop_80 (Int.toNat ((mi 21).toInt - v_69.toInt) + 1) v_69 _ _ _ ⟨(by show x_5.toInt + 1 ≤ v_69.toInt; omega), (by show v_69.toInt ≤ (mi 21).toInt; omega), (LT_one (i := x_5) (v := r_59) (hp_62 (by omega)) (by omega) (by omega) (by omega) (by omega))⟩ (by omega) hw75 (lv_sub hl67 [0, 1] rfl)
                  · skip
                    refine lv_if_eq (pc := 92) (tgt := 155) E.1 E.2.1 dX12_reads_92 (by decide) (fun _ => ?_) (fun c_129 => absurd (meqE (a := 0) (b := 0) (by decide +kernel) (by decide +kernel) (by omega)) c_129)
                    refine lv_aload_n (pc := 155) E.1 E.2.1 dX12_reads_155 rfl (lv_at hl67 1 rfl) ?_
                    refine lv_iload_n (pc := 156) E.1 E.2.1 dX12_reads_156 rfl (lv_at hl67 0 rfl) ?_
                    refine cm_i (pc := 157) hw75 (rn_M (As := [.int r_59]) (rest := []) E hw75 (s_isDigit2 l D cI cJ _ M mr (upd (upd (upd (upd mi 22 v_69) 23 x_5) 24 1) 25 r_59) mf mg r_59) (gdV q_1682 q_1684 q_56 q_162 q_1685) hdV_X12_isDigit ⟨rfl, rfl⟩ ⟨(Nat.le_of_ble_eq_true rfl), (Nat.le_of_ble_eq_true rfl)⟩ ⟨(Nat.le_of_ble_eq_true rfl), (Nat.le_of_ble_eq_true rfl)⟩ 12 rfl rfl rfl rfl hl67.1 rfl (Nat.le_of_ble_eq_true rfl) dX12_reads_157) (fun r_131 u_130 H1 locs hp hw132 => ?_)
                    generalize H1 = H at hw132 ⊢
                    have hw133 : WD D A s.heap (MW cI cJ M mr (upd (upd (upd (upd mi 22 v_69) 23 x_5) 24 1) 25 r_59) mf mg) H locs := hw132
                    have hp_134 := hp
                    rcases hp_134 with ⟨rfl, ha_135, ha_136⟩ | rfl
                    · skip
                      have ha_135 : 48 ≤ r_59.toInt := ha_135
                      have ha_136 : r_59.toInt ≤ 57 := ha_136
                      refine lv_if_eq (pc := 160) (tgt := 260) E.1 E.2.1 dX12_reads_160 (by decide) (fun c_137 => absurd c_137 (mneE (a := 1) (b := 0) (by decide +kernel) (by decide +kernel) (by omega))) (fun _ => ?_)
                      refine lv_aload_n (pc := 163) E.1 E.2.1 dX12_reads_163 rfl (lv_at hl67 1 rfl) ?_
                      refine lv_iload_n (pc := 164) E.1 E.2.1 dX12_reads_164 rfl (lv_at hl67 0 rfl) ?_
                      refine lv_bipush (pc := 165) (v := 48) E.1 E.2.1 dX12_reads_165 (by decide +kernel) ?_
                      refine lv_isub (pc := 167) E.1 E.2.1 dX12_reads_167 ?_
                      refine lv_topi (fun v_138 ev_138 => ?_)
                      have hv_138 : v_138.toInt = r_59.toInt - 48 := by rw [ev_138]; exact subE rfl (by decide +kernel) (by omega)
                      refine x_put (pc := 168) (T := TX12) (N := 70) (ci := 12) (ws' := (MW cI cJ M mr (upd (upd (upd (upd mi 22 v_69) 23 x_5) 24 1) 25 v_138) mf mg)) E hw133 inX12 tyX12_ok nmX12 0 25 q_1424 rfl rfl (by decide) rfl rfl rfl rfl (Nat.le_of_ble_eq_true rfl) rfl dX12_reads_168 (fun H locs hw139 => ?_)
                      have loop_140 : ∀ (k : Nat) (x_141 : Int32) (x_142 : Int32) (H : Heap) (locs : List Loc) (ls : Array Slot), (x_5.toInt + 1 ≤ x_141.toInt) ∧ (x_141.toInt ≤ (mi 21).toInt) → (mi 21).toInt - x_141.toInt < (k : Int) → WD D A s.heap (MW cI cJ M mr (upd (upd (upd (upd mi 22 x_141) 23 x_5) 24 1) 25 x_142) mf mg) H locs → lv_has ls 2 [(1, .int r_59), (0, .ref M)] → W p l e ({ frames := 3, cells := 0, slots := 0, locals := 84 } : Room) s m ([.ref M] : List Value).toArray below meth c H locs 0 0 (MQ below (va_Qv (fun (u : Int32 × Int32 × Int32 × Int32) => (0 ≤ u.2.1.toInt) ∧ (u.2.1.toInt ≤ u.1.toInt) ∧ (u.1.toInt ≤ (mi 21).toInt) ∧ (0 ≤ u.2.2.1.toInt) ∧ (u.2.2.1.toInt ≤ 4) ∧ (u.2.2.1.toInt ≤ 4 * u.1.toInt - 4 * u.2.1.toInt) ∧ ((mi 22).toInt ≤ u.2.1.toInt) ∧ ((u.2.2.1.toInt = 2 → u.2.2.2.toInt = 30 → u.2.1.toInt + 3 ≤ u.1.toInt))) (fun u => QW D cI cJ A ((fun (u : Int32 × Int32 × Int32 × Int32) => (MW cI cJ M mr (upd (upd (upd (upd mi 22 u.1) 23 u.2.1) 24 u.2.2.1) 25 u.2.2.2) mf mg)) u)) A) ([.ref M] : List Value).toArray s 0 0 A) (F0 m 171 ls []) := by
                        intro k
                        induction k with
                        | zero =>
                          intro x_141 x_142 _ _ _ hinv hm
                          obtain ⟨hi_142_0, hi_142_1⟩ := hinv
                          exact absurd hm (by omega)
                        | succ k ih_143 =>
                          intro x_141 x_142 H locs ls hinv hm hw144 hl145
                          obtain ⟨hi_142_0, hi_142_1⟩ := hinv
                          refine lv_aload_n (pc := 171) E.1 E.2.1 dX12_reads_171 rfl (lv_at hl145 1 rfl) ?_
                          refine lv_aload_n (pc := 172) E.1 E.2.1 dX12_reads_172 rfl (lv_at hl145 1 rfl) ?_
                          refine lv_aload_n (pc := 173) E.1 E.2.1 dX12_reads_173 rfl (lv_at hl145 1 rfl) ?_
                          refine x_get (pc := 174) (T := TX12) (N := 70) (ci := 12) (v := .int x_141) E hw144 inX12 0 22 q_1421 rfl rfl (by decide) rfl rfl dX12_reads_174 ?_
                          refine cm_i (pc := 177) hw144 (rn_M (As := [.int x_141]) (rest := [.ref M]) E hw144 (s_raw3 l D cI cJ _ M mr (upd (upd (upd (upd mi 22 x_141) 23 x_5) 24 1) 25 x_142) mf mg x_141 (by show 0 ≤ x_141.toInt; omega) (by show 0 ≤ (mi 21).toInt ∧ (mi 21).toInt ≤ 400; omega)) (gdV q_1670 q_1672 q_53 q_162 q_1673) hdV_X12_raw ⟨rfl, rfl⟩ ⟨(Nat.le_of_ble_eq_true rfl), (Nat.le_of_ble_eq_true rfl)⟩ ⟨(Nat.le_of_ble_eq_true rfl), (Nat.le_of_ble_eq_true rfl)⟩ 12 rfl rfl rfl rfl hl145.1 rfl (Nat.le_of_ble_eq_true rfl) dX12_reads_177) (fun r_147 u_146 H1 locs hp hw148 => ?_)
                          generalize H1 = H at hw148 ⊢
                          have hw149 : WD D A s.heap (MW cI cJ M mr (upd (upd (upd (upd mi 22 x_141) 23 x_5) 24 1) 25 x_142) mf mg) H locs := hw148
                          obtain ⟨hp_150, hp_151⟩ := hp
                          have hp_150 : (x_141).toInt < (mi 21).toInt → r_147 = (mf 20) (x_141).toNatClampNeg := hp_150
                          rcases hp_151 with ⟨ha_152, ha_153⟩ | ha_154
                          · skip
                            have ha_152 : (mi 21).toInt ≤ x_141.toInt := ha_152
                            have ha_153 : r_147.toInt = (-1) := ha_153
                            refine cm_i (pc := 180) hw149 (rn_M (As := [.int r_147]) (rest := []) E hw149 (s_isDigit2 l D cI cJ _ M mr (upd (upd (upd (upd mi 22 x_141) 23 x_5) 24 1) 25 x_142) mf mg r_147) (gdV q_1682 q_1684 q_56 q_162 q_1685) hdV_X12_isDigit ⟨rfl, rfl⟩ ⟨(Nat.le_of_ble_eq_true rfl), (Nat.le_of_ble_eq_true rfl)⟩ ⟨(Nat.le_of_ble_eq_true rfl), (Nat.le_of_ble_eq_true rfl)⟩ 12 rfl rfl rfl rfl hl145.1 rfl (Nat.le_of_ble_eq_true rfl) dX12_reads_180) (fun r_156 u_155 H1 locs hp hw157 => ?_)
                            generalize H1 = H at hw157 ⊢
                            have hw158 : WD D A s.heap (MW cI cJ M mr (upd (upd (upd (upd mi 22 x_141) 23 x_5) 24 1) 25 x_142) mf mg) H locs := hw157
                            have hp_159 := hp
                            rcases hp_159 with ⟨rfl, ha_160, ha_161⟩ | rfl
                            · skip
                              have ha_160 : 48 ≤ r_147.toInt := ha_160
                              have ha_161 : r_147.toInt ≤ 57 := ha_161
                              exfalso; omega
                            · skip
                              refine lv_if_eq (pc := 183) (tgt := 239) E.1 E.2.1 dX12_reads_183 (by decide) (fun _ => ?_) (fun c_162 => absurd (meqE (a := 0) (b := 0) (by decide +kernel) (by decide +kernel) (by omega)) c_162)
                              refine lv_aload_n (pc := 239) E.1 E.2.1 dX12_reads_239 rfl (lv_at hl145 1 rfl) ?_
                              refine x_get (pc := 240) (T := TX12) (N := 70) (ci := 12) (v := .int x_141) E hw158 inX12 0 22 q_1421 rfl rfl (by decide) rfl rfl dX12_reads_240 ?_
                              refine lv_aload_n (pc := 243) E.1 E.2.1 dX12_reads_243 rfl (lv_at hl145 1 rfl) ?_
                              refine x_get (pc := 244) (T := TX12) (N := 70) (ci := 12) (v := .int x_5) E hw158 inX12 0 23 q_1422 rfl rfl (by decide) rfl rfl dX12_reads_244 ?_
                              refine lv_isub (pc := 247) E.1 E.2.1 dX12_reads_247 ?_
                              refine lv_topi (fun v_163 ev_163 => ?_)
                              have hv_163 : v_163.toInt = x_141.toInt - x_5.toInt := by rw [ev_163]; exact subE rfl rfl (by omega)
                              refine lv_iconst (pc := 248) (v := 5) E.1 E.2.1 dX12_reads_248 (by decide +kernel) ?_
                              refine lv_icmp_ge (pc := 249) (tgt := 273) E.1 E.2.1 dX12_reads_249 (by decide) (fun c_164 => ?_) (fun c_164 => ?_)
                              · skip
                                have hc_164 := leE (a := 5) (b := v_163.toInt) (by decide +kernel) rfl c_164
                                exact em_v (w1 := (fun (u : Int32 × Int32 × Int32 × Int32) => (MW cI cJ M mr (upd (upd (upd (upd mi 22 u.1) 23 u.2.1) 24 u.2.2.1) 25 u.2.2.2) mf mg))) E hr hlk (x_141, x_5, 1, x_142) hw158 ⟨(by show 0 ≤ x_5.toInt; have k_0 : (1 : Int32).toInt = 1 := (by decide +kernel); omega), (by show x_5.toInt ≤ x_141.toInt; have k_0 : (1 : Int32).toInt = 1 := (by decide +kernel); omega), (by show x_141.toInt ≤ (mi 21).toInt; have k_0 : (1 : Int32).toInt = 1 := (by decide +kernel); omega), (by show 0 ≤ (1 : Int32).toInt; have k_0 : (1 : Int32).toInt = 1 := (by decide +kernel); omega), (by show (1 : Int32).toInt ≤ 4; have k_0 : (1 : Int32).toInt = 1 := (by decide +kernel); omega), (by show (1 : Int32).toInt ≤ 4 * x_141.toInt - 4 * x_5.toInt; have k_0 : (1 : Int32).toInt = 1 := (by decide +kernel); omega), (by show (mi 22).toInt ≤ x_5.toInt; have k_0 : (1 : Int32).toInt = 1 := (by decide +kernel); omega), (show ((1 : Int32).toInt = 2 → x_142.toInt = 30 → x_5.toInt + 3 ≤ x_141.toInt) from (fun h => absurd h (by decide +kernel)))⟩ (Nat.le_of_ble_eq_true rfl) (Nat.le_of_ble_eq_true rfl) dX12_reads_273
                              · skip
                                have hc_164 := nleE (a := 5) (b := v_163.toInt) (by decide +kernel) rfl c_164
                                refine lv_aload_n (pc := 252) E.1 E.2.1 dX12_reads_252 rfl (lv_at hl145 1 rfl) ?_
                                refine lv_iconst (pc := 253) (v := 3) E.1 E.2.1 dX12_reads_253 (by decide +kernel) ?_
                                refine x_put (pc := 254) (T := TX12) (N := 70) (ci := 12) (ws' := (MW cI cJ M mr (upd (upd (upd (upd mi 22 x_141) 23 x_5) 24 3) 25 x_142) mf mg)) E hw158 inX12 tyX12_ok nmX12 0 24 q_1423 rfl rfl (by decide) rfl rfl rfl rfl (Nat.le_of_ble_eq_true rfl) rfl dX12_reads_254 (fun H locs hw165 => ?_)
                                refine lv_goto (pc := 257) (tgt := 273) E.1 E.2.1 dX12_reads_257 (by decide) ?_
                                exact em_v (w1 := (fun (u : Int32 × Int32 × Int32 × Int32) => (MW cI cJ M mr (upd (upd (upd (upd mi 22 u.1) 23 u.2.1) 24 u.2.2.1) 25 u.2.2.2) mf mg))) E hr hlk (x_141, x_5, 3, x_142) hw165 ⟨(by show 0 ≤ x_5.toInt; have k_0 : (3 : Int32).toInt = 3 := (by decide +kernel); omega), (by show x_5.toInt ≤ x_141.toInt; have k_0 : (3 : Int32).toInt = 3 := (by decide +kernel); omega), (by show x_141.toInt ≤ (mi 21).toInt; have k_0 : (3 : Int32).toInt = 3 := (by decide +kernel); omega), (by show 0 ≤ (3 : Int32).toInt; have k_0 : (3 : Int32).toInt = 3 := (by decide +kernel); omega), (by show (3 : Int32).toInt ≤ 4; have k_0 : (3 : Int32).toInt = 3 := (by decide +kernel); omega), (by show (3 : Int32).toInt ≤ 4 * x_141.toInt - 4 * x_5.toInt; have k_0 : (3 : Int32).toInt = 3 := (by decide +kernel); omega), (by show (mi 22).toInt ≤ x_5.toInt; have k_0 : (3 : Int32).toInt = 3 := (by decide +kernel); omega), (show ((3 : Int32).toInt = 2 → x_142.toInt = 30 → x_5.toInt + 3 ≤ x_141.toInt) from (fun h => absurd h (by decide +kernel)))⟩ (Nat.le_of_ble_eq_true rfl) (Nat.le_of_ble_eq_true rfl) dX12_reads_273
                          · skip
                            have ha_154 : x_141.toInt ≤ (mi 21).toInt - 1 := ha_154
                            refine cm_i (pc := 180) hw149 (rn_M (As := [.int r_147]) (rest := []) E hw149 (s_isDigit2 l D cI cJ _ M mr (upd (upd (upd (upd mi 22 x_141) 23 x_5) 24 1) 25 x_142) mf mg r_147) (gdV q_1682 q_1684 q_56 q_162 q_1685) hdV_X12_isDigit ⟨rfl, rfl⟩ ⟨(Nat.le_of_ble_eq_true rfl), (Nat.le_of_ble_eq_true rfl)⟩ ⟨(Nat.le_of_ble_eq_true rfl), (Nat.le_of_ble_eq_true rfl)⟩ 12 rfl rfl rfl rfl hl145.1 rfl (Nat.le_of_ble_eq_true rfl) dX12_reads_180) (fun r_167 u_166 H1 locs hp hw168 => ?_)
                            generalize H1 = H at hw168 ⊢
                            have hw169 : WD D A s.heap (MW cI cJ M mr (upd (upd (upd (upd mi 22 x_141) 23 x_5) 24 1) 25 x_142) mf mg) H locs := hw168
                            have hp_170 := hp
                            rcases hp_170 with ⟨rfl, ha_171, ha_172⟩ | rfl
                            · skip
                              have ha_171 : 48 ≤ r_147.toInt := ha_171
                              have ha_172 : r_147.toInt ≤ 57 := ha_172
                              refine lv_if_eq (pc := 183) (tgt := 239) E.1 E.2.1 dX12_reads_183 (by decide) (fun c_173 => absurd c_173 (mneE (a := 1) (b := 0) (by decide +kernel) (by decide +kernel) (by omega))) (fun _ => ?_)
                              refine lv_aload_n (pc := 186) E.1 E.2.1 dX12_reads_186 rfl (lv_at hl145 1 rfl) ?_
                              refine lv_aload_n (pc := 187) E.1 E.2.1 dX12_reads_187 rfl (lv_at hl145 1 rfl) ?_
                              refine x_get (pc := 188) (T := TX12) (N := 70) (ci := 12) (v := .int x_142) E hw169 inX12 0 25 q_1424 rfl rfl (by decide) rfl rfl dX12_reads_188 ?_
                              refine lv_sipush (pc := 191) (v := 10000) E.1 E.2.1 dX12_reads_191 (by decide +kernel) ?_
                              refine lv_icmp_ge (pc := 194) (tgt := 219) E.1 E.2.1 dX12_reads_194 (by decide) (fun c_174 => ?_) (fun c_174 => ?_)
                              · skip
                                have hc_174 := leE (a := 10000) (b := x_142.toInt) (by decide +kernel) rfl c_174
                                refine lv_aload_n (pc := 219) E.1 E.2.1 dX12_reads_219 rfl (lv_at hl145 1 rfl) ?_
                                refine x_get (pc := 220) (T := TX12) (N := 70) (ci := 12) (v := .int x_142) E hw169 inX12 0 25 q_1424 rfl rfl (by decide) rfl rfl dX12_reads_220 ?_
                                refine x_put (pc := 223) (T := TX12) (N := 70) (ci := 12) (ws' := (MW cI cJ M mr (upd (upd (upd (upd mi 22 x_141) 23 x_5) 24 1) 25 x_142) mf mg)) E hw169 inX12 tyX12_ok nmX12 0 25 q_1424 rfl rfl (by decide) rfl rfl rfl rfl (Nat.le_of_ble_eq_true rfl) rfl dX12_reads_223 (fun H locs hw175 => ?_)
                                refine lv_aload_n (pc := 226) E.1 E.2.1 dX12_reads_226 rfl (lv_at hl145 1 rfl) ?_
                                refine lv_aload_n (pc := 227) E.1 E.2.1 dX12_reads_227 rfl (lv_at hl145 1 rfl) ?_
                                refine x_get (pc := 228) (T := TX12) (N := 70) (ci := 12) (v := .int x_141) E hw175 inX12 0 22 q_1421 rfl rfl (by decide) rfl rfl dX12_reads_228 ?_
                                refine lv_iconst (pc := 231) (v := 1) E.1 E.2.1 dX12_reads_231 (by decide +kernel) ?_
                                refine lv_iadd (pc := 232) E.1 E.2.1 dX12_reads_232 ?_
                                refine lv_topi (fun v_176 ev_176 => ?_)
                                have hv_176 : v_176.toInt = x_141.toInt + 1 := by rw [ev_176]; exact addE rfl (by decide +kernel) (by omega)
                                refine x_put (pc := 233) (T := TX12) (N := 70) (ci := 12) (ws' := (MW cI cJ M mr (upd (upd (upd (upd mi 22 v_176) 23 x_5) 24 1) 25 x_142) mf mg)) E hw175 inX12 tyX12_ok nmX12 0 22 q_1421 rfl rfl (by decide) rfl rfl rfl rfl (Nat.le_of_ble_eq_true rfl) rfl dX12_reads_233 (fun H locs hw177 => ?_)
                                refine lv_goto (pc := 236) (tgt := 171) E.1 E.2.1 dX12_reads_236 (by decide) ?_
                                exact ih_143 v_176 x_142 _ _ _ ⟨(by show x_5.toInt + 1 ≤ v_176.toInt; omega), (by show v_176.toInt ≤ (mi 21).toInt; omega)⟩ (by omega) hw177 (lv_sub hl145 [0, 1] rfl)
                              · skip
                                have hc_174 := nleE (a := 10000) (b := x_142.toInt) (by decide +kernel) rfl c_174
                                refine lv_bipush (pc := 197) (v := 10) E.1 E.2.1 dX12_reads_197 (by decide +kernel) ?_
                                refine lv_aload_n (pc := 199) E.1 E.2.1 dX12_reads_199 rfl (lv_at hl145 1 rfl) ?_
                                refine x_get (pc := 200) (T := TX12) (N := 70) (ci := 12) (v := .int x_142) E hw169 inX12 0 25 q_1424 rfl rfl (by decide) rfl rfl dX12_reads_200 ?_
                                refine lv_imul (pc := 203) E.1 E.2.1 dX12_reads_203 ?_
                                refine lv_topi (fun v_178 ev_178 => ?_)
                                refine lv_aload_n (pc := 204) E.1 E.2.1 dX12_reads_204 rfl (lv_at hl145 1 rfl) ?_
                                refine lv_aload_n (pc := 205) E.1 E.2.1 dX12_reads_205 rfl (lv_at hl145 1 rfl) ?_
                                refine x_get (pc := 206) (T := TX12) (N := 70) (ci := 12) (v := .int x_141) E hw169 inX12 0 22 q_1421 rfl rfl (by decide) rfl rfl dX12_reads_206 ?_
                                refine cm_i (pc := 209) hw169 (rn_M (As := [.int x_141]) (rest := [.int v_178, .ref M]) E hw169 (s_raw3 l D cI cJ _ M mr (upd (upd (upd (upd mi 22 x_141) 23 x_5) 24 1) 25 x_142) mf mg x_141 (by show 0 ≤ x_141.toInt; omega) (by show 0 ≤ (mi 21).toInt ∧ (mi 21).toInt ≤ 400; omega)) (gdV q_1670 q_1672 q_53 q_162 q_1673) hdV_X12_raw ⟨rfl, rfl⟩ ⟨(Nat.le_of_ble_eq_true rfl), (Nat.le_of_ble_eq_true rfl)⟩ ⟨(Nat.le_of_ble_eq_true rfl), (Nat.le_of_ble_eq_true rfl)⟩ 12 rfl rfl rfl rfl hl145.1 rfl (Nat.le_of_ble_eq_true rfl) dX12_reads_209) (fun r_180 u_179 H1 locs hp hw181 => ?_)
                                generalize H1 = H at hw181 ⊢
                                have hw182 : WD D A s.heap (MW cI cJ M mr (upd (upd (upd (upd mi 22 x_141) 23 x_5) 24 1) 25 x_142) mf mg) H locs := hw181
                                obtain ⟨hp_183, hp_184⟩ := hp
                                have hp_183 : (x_141).toInt < (mi 21).toInt → r_180 = (mf 20) (x_141).toNatClampNeg := hp_183
                                rcases hp_184 with ⟨ha_185, ha_186⟩ | ha_187
                                · skip
                                  have ha_185 : (mi 21).toInt ≤ x_141.toInt := ha_185
                                  have ha_186 : r_180.toInt = (-1) := ha_186
                                  exfalso; omega
                                · skip
                                  have ha_187 : x_141.toInt ≤ (mi 21).toInt - 1 := ha_187
                                  refine lv_iadd (pc := 212) E.1 E.2.1 dX12_reads_212 ?_
                                  refine lv_topi (fun v_188 ev_188 => ?_)
                                  refine lv_bipush (pc := 213) (v := 48) E.1 E.2.1 dX12_reads_213 (by decide +kernel) ?_
                                  refine lv_isub (pc := 215) E.1 E.2.1 dX12_reads_215 ?_
                                  refine lv_topi (fun v_189 ev_189 => ?_)
                                  refine lv_goto (pc := 216) (tgt := 223) E.1 E.2.1 dX12_reads_216 (by decide) ?_
                                  refine x_put (pc := 223) (T := TX12) (N := 70) (ci := 12) (ws' := (MW cI cJ M mr (upd (upd (upd (upd mi 22 x_141) 23 x_5) 24 1) 25 v_189) mf mg)) E hw182 inX12 tyX12_ok nmX12 0 25 q_1424 rfl rfl (by decide) rfl rfl rfl rfl (Nat.le_of_ble_eq_true rfl) rfl dX12_reads_223 (fun H locs hw190 => ?_)
                                  refine lv_aload_n (pc := 226) E.1 E.2.1 dX12_reads_226 rfl (lv_at hl145 1 rfl) ?_
                                  refine lv_aload_n (pc := 227) E.1 E.2.1 dX12_reads_227 rfl (lv_at hl145 1 rfl) ?_
                                  refine x_get (pc := 228) (T := TX12) (N := 70) (ci := 12) (v := .int x_141) E hw190 inX12 0 22 q_1421 rfl rfl (by decide) rfl rfl dX12_reads_228 ?_
                                  refine lv_iconst (pc := 231) (v := 1) E.1 E.2.1 dX12_reads_231 (by decide +kernel) ?_
                                  refine lv_iadd (pc := 232) E.1 E.2.1 dX12_reads_232 ?_
                                  refine lv_topi (fun v_191 ev_191 => ?_)
                                  have hv_191 : v_191.toInt = x_141.toInt + 1 := by rw [ev_191]; exact addE rfl (by decide +kernel) (by omega)
                                  refine x_put (pc := 233) (T := TX12) (N := 70) (ci := 12) (ws' := (MW cI cJ M mr (upd (upd (upd (upd mi 22 v_191) 23 x_5) 24 1) 25 v_189) mf mg)) E hw190 inX12 tyX12_ok nmX12 0 22 q_1421 rfl rfl (by decide) rfl rfl rfl rfl (Nat.le_of_ble_eq_true rfl) rfl dX12_reads_233 (fun H locs hw192 => ?_)
                                  refine lv_goto (pc := 236) (tgt := 171) E.1 E.2.1 dX12_reads_236 (by decide) ?_
                                  exact ih_143 v_191 v_189 _ _ _ ⟨(by show x_5.toInt + 1 ≤ v_191.toInt; omega), (by show v_191.toInt ≤ (mi 21).toInt; omega)⟩ (by omega) hw192 (lv_sub hl145 [0, 1] rfl)
                            · skip
                              refine lv_if_eq (pc := 183) (tgt := 239) E.1 E.2.1 dX12_reads_183 (by decide) (fun _ => ?_) (fun c_193 => absurd (meqE (a := 0) (b := 0) (by decide +kernel) (by decide +kernel) (by omega)) c_193)
                              refine lv_aload_n (pc := 239) E.1 E.2.1 dX12_reads_239 rfl (lv_at hl145 1 rfl) ?_
                              refine x_get (pc := 240) (T := TX12) (N := 70) (ci := 12) (v := .int x_141) E hw169 inX12 0 22 q_1421 rfl rfl (by decide) rfl rfl dX12_reads_240 ?_
                              refine lv_aload_n (pc := 243) E.1 E.2.1 dX12_reads_243 rfl (lv_at hl145 1 rfl) ?_
                              refine x_get (pc := 244) (T := TX12) (N := 70) (ci := 12) (v := .int x_5) E hw169 inX12 0 23 q_1422 rfl rfl (by decide) rfl rfl dX12_reads_244 ?_
                              refine lv_isub (pc := 247) E.1 E.2.1 dX12_reads_247 ?_
                              refine lv_topi (fun v_194 ev_194 => ?_)
                              have hv_194 : v_194.toInt = x_141.toInt - x_5.toInt := by rw [ev_194]; exact subE rfl rfl (by omega)
                              refine lv_iconst (pc := 248) (v := 5) E.1 E.2.1 dX12_reads_248 (by decide +kernel) ?_
                              refine lv_icmp_ge (pc := 249) (tgt := 273) E.1 E.2.1 dX12_reads_249 (by decide) (fun c_195 => ?_) (fun c_195 => ?_)
                              · skip
                                have hc_195 := leE (a := 5) (b := v_194.toInt) (by decide +kernel) rfl c_195
                                exact em_v (w1 := (fun (u : Int32 × Int32 × Int32 × Int32) => (MW cI cJ M mr (upd (upd (upd (upd mi 22 u.1) 23 u.2.1) 24 u.2.2.1) 25 u.2.2.2) mf mg))) E hr hlk (x_141, x_5, 1, x_142) hw169 ⟨(by show 0 ≤ x_5.toInt; have k_0 : (1 : Int32).toInt = 1 := (by decide +kernel); omega), (by show x_5.toInt ≤ x_141.toInt; have k_0 : (1 : Int32).toInt = 1 := (by decide +kernel); omega), (by show x_141.toInt ≤ (mi 21).toInt; have k_0 : (1 : Int32).toInt = 1 := (by decide +kernel); omega), (by show 0 ≤ (1 : Int32).toInt; have k_0 : (1 : Int32).toInt = 1 := (by decide +kernel); omega), (by show (1 : Int32).toInt ≤ 4; have k_0 : (1 : Int32).toInt = 1 := (by decide +kernel); omega), (by show (1 : Int32).toInt ≤ 4 * x_141.toInt - 4 * x_5.toInt; have k_0 : (1 : Int32).toInt = 1 := (by decide +kernel); omega), (by show (mi 22).toInt ≤ x_5.toInt; have k_0 : (1 : Int32).toInt = 1 := (by decide +kernel); omega), (show ((1 : Int32).toInt = 2 → x_142.toInt = 30 → x_5.toInt + 3 ≤ x_141.toInt) from (fun h => absurd h (by decide +kernel)))⟩ (Nat.le_of_ble_eq_true rfl) (Nat.le_of_ble_eq_true rfl) dX12_reads_273
                              · skip
                                have hc_195 := nleE (a := 5) (b := v_194.toInt) (by decide +kernel) rfl c_195
                                refine lv_aload_n (pc := 252) E.1 E.2.1 dX12_reads_252 rfl (lv_at hl145 1 rfl) ?_
                                refine lv_iconst (pc := 253) (v := 3) E.1 E.2.1 dX12_reads_253 (by decide +kernel) ?_
                                refine x_put (pc := 254) (T := TX12) (N := 70) (ci := 12) (ws' := (MW cI cJ M mr (upd (upd (upd (upd mi 22 x_141) 23 x_5) 24 3) 25 x_142) mf mg)) E hw169 inX12 tyX12_ok nmX12 0 24 q_1423 rfl rfl (by decide) rfl rfl rfl rfl (Nat.le_of_ble_eq_true rfl) rfl dX12_reads_254 (fun H locs hw196 => ?_)
                                refine lv_goto (pc := 257) (tgt := 273) E.1 E.2.1 dX12_reads_257 (by decide) ?_
                                exact em_v (w1 := (fun (u : Int32 × Int32 × Int32 × Int32) => (MW cI cJ M mr (upd (upd (upd (upd mi 22 u.1) 23 u.2.1) 24 u.2.2.1) 25 u.2.2.2) mf mg))) E hr hlk (x_141, x_5, 3, x_142) hw196 ⟨(by show 0 ≤ x_5.toInt; have k_0 : (3 : Int32).toInt = 3 := (by decide +kernel); omega), (by show x_5.toInt ≤ x_141.toInt; have k_0 : (3 : Int32).toInt = 3 := (by decide +kernel); omega), (by show x_141.toInt ≤ (mi 21).toInt; have k_0 : (3 : Int32).toInt = 3 := (by decide +kernel); omega), (by show 0 ≤ (3 : Int32).toInt; have k_0 : (3 : Int32).toInt = 3 := (by decide +kernel); omega), (by show (3 : Int32).toInt ≤ 4; have k_0 : (3 : Int32).toInt = 3 := (by decide +kernel); omega), (by show (3 : Int32).toInt ≤ 4 * x_141.toInt - 4 * x_5.toInt; have k_0 : (3 : Int32).toInt = 3 := (by decide +kernel); omega), (by show (mi 22).toInt ≤ x_5.toInt; have k_0 : (3 : Int32).toInt = 3 := (by decide +kernel); omega), (show ((3 : Int32).toInt = 2 → x_142.toInt = 30 → x_5.toInt + 3 ≤ x_141.toInt) from (fun h => absurd h (by decide +kernel)))⟩ (Nat.le_of_ble_eq_true rfl) (Nat.le_of_ble_eq_true rfl) dX12_reads_273
                      exact loop_140 (Int.toNat ((mi 21).toInt - v_69.toInt) + 1) v_69 v_138 _ _ _ ⟨(by show x_5.toInt + 1 ≤ v_69.toInt; omega), (by show v_69.toInt ≤ (mi 21).toInt; omega)⟩ (by omega) hw139 (lv_sub hl67 [0, 1] rfl)
                    · skip
                      refine lv_if_eq (pc := 160) (tgt := 260) E.1 E.2.1 dX12_reads_160 (by decide) (fun _ => ?_) (fun c_197 => absurd (meqE (a := 0) (b := 0) (by decide +kernel) (by decide +kernel) (by omega)) c_197)
                      refine lv_aload_n (pc := 260) E.1 E.2.1 dX12_reads_260 rfl (lv_at hl67 1 rfl) ?_
                      refine lv_iload_n (pc := 261) E.1 E.2.1 dX12_reads_261 rfl (lv_at hl67 0 rfl) ?_
                      refine cm_i (pc := 262) hw133 (rn_M (As := [.int r_59]) (rest := []) E hw133 (s_isMarkSign l D cI cJ _ M mr (upd (upd (upd (upd mi 22 v_69) 23 x_5) 24 1) 25 r_59) mf mg r_59) (gdV q_1686 q_1688 q_57 q_162 q_1689) hdV_X12_isMarkSign ⟨rfl, rfl⟩ ⟨(Nat.le_of_ble_eq_true rfl), (Nat.le_of_ble_eq_true rfl)⟩ ⟨(Nat.le_of_ble_eq_true rfl), (Nat.le_of_ble_eq_true rfl)⟩ 12 rfl rfl rfl rfl hl67.1 rfl (Nat.le_of_ble_eq_true rfl) dX12_reads_262) (fun r_199 u_198 H1 locs hp hw200 => ?_)
                      generalize H1 = H at hw200 ⊢
                      have hw201 : WD D A s.heap (MW cI cJ M mr (upd (upd (upd (upd mi 22 v_69) 23 x_5) 24 1) 25 r_59) mf mg) H locs := hw200
                      have hp_202 := hp
                      have hp_202 : 0 ≤ r_199.toInt ∧ r_199.toInt ≤ 1 := hp_202
                      refine lv_if_eq (pc := 265) (tgt := 273) E.1 E.2.1 dX12_reads_265 (by decide) (fun c_203 => ?_) (fun c_203 => ?_)
                      · skip
                        have hc_203 := eqE (a := r_199.toInt) (b := 0) rfl (by decide +kernel) c_203
                        exact em_v (w1 := (fun (u : Int32 × Int32 × Int32 × Int32) => (MW cI cJ M mr (upd (upd (upd (upd mi 22 u.1) 23 u.2.1) 24 u.2.2.1) 25 u.2.2.2) mf mg))) E hr hlk (v_69, x_5, 1, r_59) hw201 ⟨(by show 0 ≤ x_5.toInt; have k_0 : (1 : Int32).toInt = 1 := (by decide +kernel); omega), (by show x_5.toInt ≤ v_69.toInt; have k_0 : (1 : Int32).toInt = 1 := (by decide +kernel); omega), (by show v_69.toInt ≤ (mi 21).toInt; have k_0 : (1 : Int32).toInt = 1 := (by decide +kernel); omega), (by show 0 ≤ (1 : Int32).toInt; have k_0 : (1 : Int32).toInt = 1 := (by decide +kernel); omega), (by show (1 : Int32).toInt ≤ 4; have k_0 : (1 : Int32).toInt = 1 := (by decide +kernel); omega), (by show (1 : Int32).toInt ≤ 4 * v_69.toInt - 4 * x_5.toInt; have k_0 : (1 : Int32).toInt = 1 := (by decide +kernel); omega), (by show (mi 22).toInt ≤ x_5.toInt; have k_0 : (1 : Int32).toInt = 1 := (by decide +kernel); omega), (show ((1 : Int32).toInt = 2 → r_59.toInt = 30 → x_5.toInt + 3 ≤ v_69.toInt) from (fun h => absurd h (by decide +kernel)))⟩ (Nat.le_of_ble_eq_true rfl) (Nat.le_of_ble_eq_true rfl) dX12_reads_273
                      · skip
                        have hc_203 := neE (a := r_199.toInt) (b := 0) rfl (by decide +kernel) c_203
                        refine lv_aload_n (pc := 268) E.1 E.2.1 dX12_reads_268 rfl (lv_at hl67 1 rfl) ?_
                        refine lv_iconst (pc := 269) (v := 4) E.1 E.2.1 dX12_reads_269 (by decide +kernel) ?_
                        refine x_put (pc := 270) (T := TX12) (N := 70) (ci := 12) (ws' := (MW cI cJ M mr (upd (upd (upd (upd mi 22 v_69) 23 x_5) 24 4) 25 r_59) mf mg)) E hw201 inX12 tyX12_ok nmX12 0 24 q_1423 rfl rfl (by decide) rfl rfl rfl rfl (Nat.le_of_ble_eq_true rfl) rfl dX12_reads_270 (fun H locs hw204 => ?_)
                        exact em_v (w1 := (fun (u : Int32 × Int32 × Int32 × Int32) => (MW cI cJ M mr (upd (upd (upd (upd mi 22 u.1) 23 u.2.1) 24 u.2.2.1) 25 u.2.2.2) mf mg))) E hr hlk (v_69, x_5, 4, r_59) hw204 ⟨(by show 0 ≤ x_5.toInt; have k_0 : (4 : Int32).toInt = 4 := (by decide +kernel); omega), (by show x_5.toInt ≤ v_69.toInt; have k_0 : (4 : Int32).toInt = 4 := (by decide +kernel); omega), (by show v_69.toInt ≤ (mi 21).toInt; have k_0 : (4 : Int32).toInt = 4 := (by decide +kernel); omega), (by show 0 ≤ (4 : Int32).toInt; have k_0 : (4 : Int32).toInt = 4 := (by decide +kernel); omega), (by show (4 : Int32).toInt ≤ 4; have k_0 : (4 : Int32).toInt = 4 := (by decide +kernel); omega), (by show (4 : Int32).toInt ≤ 4 * v_69.toInt - 4 * x_5.toInt; have k_0 : (4 : Int32).toInt = 4 := (by decide +kernel); omega), (by show (mi 22).toInt ≤ x_5.toInt; have k_0 : (4 : Int32).toInt = 4 := (by decide +kernel); omega), (show ((4 : Int32).toInt = 2 → r_59.toInt = 30 → x_5.toInt + 3 ≤ v_69.toInt) from (fun h => absurd h (by decide +kernel)))⟩ (Nat.le_of_ble_eq_true rfl) (Nat.le_of_ble_eq_true rfl) dX12_reads_273
                · skip
                  have hc_68 := eqE (a := r_59.toInt) (b := (-1)) rfl (by decide +kernel) c_68
                  refine lv_aload_n (pc := 66) E.1 E.2.1 dX12_reads_66 rfl (lv_at hl67 1 rfl) ?_
                  refine lv_iconst (pc := 67) (v := 0) E.1 E.2.1 dX12_reads_67 (by decide +kernel) ?_
                  refine x_put (pc := 68) (T := TX12) (N := 70) (ci := 12) (ws' := (MW cI cJ M mr (upd (upd (upd mi 22 x_5) 23 x_5) 24 0) mf mg)) E hw61 inX12 tyX12_ok nmX12 0 24 q_1423 rfl rfl (by decide) rfl rfl rfl rfl (Nat.le_of_ble_eq_true rfl) rfl dX12_reads_68 (fun H locs hw205 => ?_)
                  exact em_v (w1 := (fun (u : Int32 × Int32 × Int32 × Int32) => (MW cI cJ M mr (upd (upd (upd (upd mi 22 u.1) 23 u.2.1) 24 u.2.2.1) 25 u.2.2.2) mf mg))) E hr hlk (x_5, x_5, 0, (mi 25)) hw205 ⟨(by show 0 ≤ x_5.toInt; have k_0 : (0 : Int32).toInt = 0 := (by decide +kernel); omega), (by show x_5.toInt ≤ x_5.toInt; have k_0 : (0 : Int32).toInt = 0 := (by decide +kernel); omega), (by show x_5.toInt ≤ (mi 21).toInt; have k_0 : (0 : Int32).toInt = 0 := (by decide +kernel); omega), (by show 0 ≤ (0 : Int32).toInt; have k_0 : (0 : Int32).toInt = 0 := (by decide +kernel); omega), (by show (0 : Int32).toInt ≤ 4; have k_0 : (0 : Int32).toInt = 0 := (by decide +kernel); omega), (by show (0 : Int32).toInt ≤ 4 * x_5.toInt - 4 * x_5.toInt; have k_0 : (0 : Int32).toInt = 0 := (by decide +kernel); omega), (by show (mi 22).toInt ≤ x_5.toInt; have k_0 : (0 : Int32).toInt = 0 := (by decide +kernel); omega), (show ((0 : Int32).toInt = 2 → (mi 25).toInt = 30 → x_5.toInt + 3 ≤ x_5.toInt) from (fun h => absurd h (by decide +kernel)))⟩ (Nat.le_of_ble_eq_true rfl) (Nat.le_of_ble_eq_true rfl) dX12_reads_71
            · skip
              have hc_55 := eqE (a := r_47.toInt) (b := 10) rfl (by decide +kernel) c_55
              refine lv_aload_n (pc := 26) E.1 E.2.1 dX12_reads_26 rfl (lv_at hl8 0 rfl) ?_
              refine lv_aload_n (pc := 27) E.1 E.2.1 dX12_reads_27 rfl (lv_at hl8 0 rfl) ?_
              refine x_get (pc := 28) (T := TX12) (N := 70) (ci := 12) (v := .int x_5) E hw49 inX12 0 22 q_1421 rfl rfl (by decide) rfl rfl dX12_reads_28 ?_
              refine lv_iconst (pc := 31) (v := 1) E.1 E.2.1 dX12_reads_31 (by decide +kernel) ?_
              refine lv_iadd (pc := 32) E.1 E.2.1 dX12_reads_32 ?_
              refine lv_topi (fun v_206 ev_206 => ?_)
              have hv_206 : v_206.toInt = x_5.toInt + 1 := by rw [ev_206]; exact addE rfl (by decide +kernel) (by omega)
              refine x_put (pc := 33) (T := TX12) (N := 70) (ci := 12) (ws' := (MW cI cJ M mr (upd mi 22 v_206) mf mg)) E hw49 inX12 tyX12_ok nmX12 0 22 q_1421 rfl rfl (by decide) rfl rfl rfl rfl (Nat.le_of_ble_eq_true rfl) rfl dX12_reads_33 (fun H locs hw207 => ?_)
              refine lv_goto (pc := 36) (tgt := 0) E.1 E.2.1 dX12_reads_36 (by decide) ?_
              exact ih_6 v_206 _ _ _ ⟨(by show 0 ≤ v_206.toInt; omega), (by show v_206.toInt ≤ (mi 21).toInt; omega), (by show (mi 22).toInt ≤ v_206.toInt; omega)⟩ (by omega) hw207 (lv_sub hl8 [0] rfl)
  exact loop_4 (Int.toNat ((mi 21).toInt - (mi 22).toInt) + 1) (mi 22) _ _ _ ⟨(by show 0 ≤ (mi 22).toInt; omega), (by show (mi 22).toInt ≤ (mi 21).toInt; omega), (by show (mi 22).toInt ≤ (mi 22).toInt; omega)⟩ (by omega) hw1 (lv_sub hl3 [0] rfl)

set_option maxHeartbeats 4000000 in
set_option maxRecDepth 100000 in
theorem s_readNumber (l : Launch) (D : va_G) (cI cJ : ClassId) (sz M : Nat) (mr : Nat → Nat) (mi : Nat → Int32) (mf : Nat → Nat → Int32) (mg : Nat → Nat → Int64) (z_low : Int32) (z_high : Int32) (h0 : 0 ≤ (mi 23).toInt) (h1 : (mi 23).toInt ≤ (mi 22).toInt) (h2 : (mi 22).toInt ≤ (mi 21).toInt) (h3 : (mi 21).toInt ≤ 400) (h4 : 0 ≤ (mi 24).toInt) (h5 : (mi 24).toInt ≤ 4) (h6 : (mi 24).toInt ≤ 4 * (mi 22).toInt - 4 * (mi 23).toInt) (h7 : ((mf 26) 153).toInt = 32) (lf_words : (∀ j : Nat, j < 154 → (mf 26) j = w0 j)) (lf_again : ((mi 24).toInt = 2 → (mi 25).toInt = 30 → (mi 23).toInt + 3 ≤ (mi 22).toInt)) : Met l yX12_readNumber (Cond.code yX12_readNumber cX12_readNumber 4 (some .int) :: GW) ({ frames := 4, cells := 0, slots := 0, locals := 105 } : Room) (va_Pc [.ref M, .int z_low, .int z_high] (PW D cI cJ sz (MW cI cJ M mr mi mf mg) xT)) (va_Qi (fun (r : Int32) (u : Int32 × Int32 × Int32 × Int32 × Int32 × Int32) => (0 ≤ u.2.1.toInt) ∧ (u.2.1.toInt ≤ u.1.toInt) ∧ (u.1.toInt ≤ (mi 21).toInt) ∧ (0 ≤ u.2.2.1.toInt) ∧ (u.2.2.1.toInt ≤ 4) ∧ (u.2.2.1.toInt ≤ 4 * u.1.toInt - 4 * u.2.1.toInt) ∧ ((u.2.2.1.toInt = 2 → u.2.2.2.1.toInt = 30 → u.2.1.toInt + 3 ≤ u.1.toInt)) ∧ ((r = (-1)) ∨ (z_low.toInt ≤ r.toInt ∧ r.toInt ≤ z_high.toInt ∧ (mi 23).toInt + 1 ≤ u.2.1.toInt))) (fun u => QW D cI cJ (va_A (MW cI cJ M mr mi mf mg) sz) ((fun (u : Int32 × Int32 × Int32 × Int32 × Int32 × Int32) => (MW cI cJ M mr (upd (upd (upd (upd (upd (upd mi 22 u.1) 23 u.2.1) 24 u.2.2.1) 25 u.2.2.2.1) 38 u.2.2.2.2.1) 39 u.2.2.2.2.2) mf mg)) u)) (va_A (MW cI cJ M mr mi mf mg) sz)) 0 0 (va_A (MW cI cJ M mr mi mf mg) sz) := by
  refine mk_met (y := yX12_readNumber) (bytes := cX12_readNumber) (maxL := 4) (avs := [.ref M, .int z_low, .int z_high]) (WS := (MW cI cJ M mr mi mf mg)) (Qf := fun A => va_Qi (fun (r : Int32) (u : Int32 × Int32 × Int32 × Int32 × Int32 × Int32) => (0 ≤ u.2.1.toInt) ∧ (u.2.1.toInt ≤ u.1.toInt) ∧ (u.1.toInt ≤ (mi 21).toInt) ∧ (0 ≤ u.2.2.1.toInt) ∧ (u.2.2.1.toInt ≤ 4) ∧ (u.2.2.1.toInt ≤ 4 * u.1.toInt - 4 * u.2.1.toInt) ∧ ((u.2.2.1.toInt = 2 → u.2.2.2.1.toInt = 30 → u.2.1.toInt + 3 ≤ u.1.toInt)) ∧ ((r = (-1)) ∨ (z_low.toInt ≤ r.toInt ∧ r.toInt ≤ z_high.toInt ∧ (mi 23).toInt + 1 ≤ u.2.1.toInt))) (fun u => QW D cI cJ A ((fun (u : Int32 × Int32 × Int32 × Int32 × Int32 × Int32) => (MW cI cJ M mr (upd (upd (upd (upd (upd (upd mi 22 u.1) 23 u.2.1) 24 u.2.2.1) 25 u.2.2.2.1) 38 u.2.2.2.2.1) 39 u.2.2.2.2.2) mf mg)) u)) A) (by decide) (Nat.le_of_ble_eq_true rfl) ?_
  intro p e s m below meth c A ls E hr hlk hnm hX hw1 hl2
  have hl3 : lv_has ls 4 [(0, .ref M), (1, .int z_low), (2, .int z_high)] := hl2
  refine lv_aload_n (pc := 0) E.1 E.2.1 dX12_readNumber_0 rfl (lv_at hl3 0 rfl) ?_
  refine x_get (pc := 1) (T := TX12) (N := 70) (ci := 12) (v := .int (mi 24)) E hw1 inX12 0 24 q_1423 rfl rfl (by decide) rfl rfl dX12_readNumber_1 ?_
  refine lv_iconst (pc := 4) (v := 3) E.1 E.2.1 dX12_readNumber_4 (by decide +kernel) ?_
  refine lv_icmp_eq (pc := 5) (tgt := 14) E.1 E.2.1 dX12_readNumber_5 (by decide) (fun c_4 => ?_) (fun c_4 => ?_)
  · skip
    have hc_4 := eqE (a := (mi 24).toInt) (b := 3) rfl (by decide +kernel) c_4
    refine lv_aload_n (pc := 14) E.1 E.2.1 dX12_readNumber_14 rfl (lv_at hl3 0 rfl) ?_
    refine lv_aload_n (pc := 15) E.1 E.2.1 dX12_readNumber_15 rfl (lv_at hl3 0 rfl) ?_
    refine x_get (pc := 16) (T := TX12) (N := 70) (ci := 12) (v := .int (mi 25)) E hw1 inX12 0 25 q_1424 rfl rfl (by decide) rfl rfl dX12_readNumber_16 ?_
    refine lv_iload_n (pc := 19) E.1 E.2.1 dX12_readNumber_19 rfl (lv_at hl3 1 rfl) ?_
    refine lv_iload_n (pc := 20) E.1 E.2.1 dX12_readNumber_20 rfl (lv_at hl3 2 rfl) ?_
    refine cm_i (pc := 21) hw1 (rn_M (As := [.int (mi 25), .int z_low, .int z_high]) (rest := []) E hw1 (s_isIn l D cI cJ _ M mr mi mf mg (mi 25) z_low z_high) (gdV q_1622 q_1624 q_46 q_162 q_1625) hdV_X12_isIn ⟨rfl, rfl⟩ ⟨(Nat.le_of_ble_eq_true rfl), (Nat.le_of_ble_eq_true rfl)⟩ ⟨(Nat.le_of_ble_eq_true rfl), (Nat.le_of_ble_eq_true rfl)⟩ 12 rfl rfl rfl rfl hl3.1 rfl (Nat.le_of_ble_eq_true rfl) dX12_readNumber_21) (fun r_6 u_5 H1 locs hp hw7 => ?_)
    generalize H1 = H at hw7 ⊢
    have hw8 : WD D A s.heap (MW cI cJ M mr mi mf mg) H locs := hw7
    have hp_9 := hp
    rcases hp_9 with ⟨rfl, ha_10⟩ | ⟨rfl, ha_11⟩ | ⟨rfl, ha_12, ha_13⟩
    · skip
      have ha_10 : (mi 25).toInt < z_low.toInt := ha_10
      refine lv_if_ne (pc := 24) (tgt := 33) E.1 E.2.1 dX12_readNumber_24 (by decide) (fun c_14 => absurd (meqE (a := 0) (b := 0) (by decide +kernel) (by decide +kernel) (by omega)) c_14) (fun _ => ?_)
      refine lv_aload_n (pc := 27) E.1 E.2.1 dX12_readNumber_27 rfl (lv_at hl3 0 rfl) ?_
      refine lv_iconst (pc := 28) (v := 2) E.1 E.2.1 dX12_readNumber_28 (by decide +kernel) ?_
      refine cm_i (pc := 29) hw8 (rn_M (As := [.int 2]) (rest := []) E hw8 (s_errs2 l D cI cJ _ M mr mi mf mg 2) (gdV q_1698 q_1700 q_60 q_162 q_1701) hdV_X12_errs ⟨rfl, rfl⟩ ⟨(Nat.le_of_ble_eq_true rfl), (Nat.le_of_ble_eq_true rfl)⟩ ⟨(Nat.le_of_ble_eq_true rfl), (Nat.le_of_ble_eq_true rfl)⟩ 12 rfl rfl rfl rfl hl3.1 rfl (Nat.le_of_ble_eq_true rfl) dX12_readNumber_29) (fun r_16 u_15 H1 locs hp hw17 => ?_)
      obtain ⟨nreadFault_18, nreadPlace_19⟩ := u_15
      generalize H1 = H at hw17 ⊢
      have hw20 : WD D A s.heap (MW cI cJ M mr (upd (upd mi 38 nreadFault_18) 39 nreadPlace_19) mf mg) H locs := hw17
      have hp_21 := hp
      rcases hp_21 with rfl
      · skip
        exact em_i (w1 := (fun (u : Int32 × Int32 × Int32 × Int32 × Int32 × Int32) => (MW cI cJ M mr (upd (upd (upd (upd (upd (upd mi 22 u.1) 23 u.2.1) 24 u.2.2.1) 25 u.2.2.2.1) 38 u.2.2.2.2.1) 39 u.2.2.2.2.2) mf mg))) E hr hlk ((mi 22), (mi 23), (mi 24), (mi 25), nreadFault_18, nreadPlace_19) hw20 ⟨(by show 0 ≤ (mi 23).toInt; have k_0 : ((-1) : Int32).toInt = -1 := (by decide +kernel); omega), (by show (mi 23).toInt ≤ (mi 22).toInt; have k_0 : ((-1) : Int32).toInt = -1 := (by decide +kernel); omega), (by show (mi 22).toInt ≤ (mi 21).toInt; have k_0 : ((-1) : Int32).toInt = -1 := (by decide +kernel); omega), (by show 0 ≤ (mi 24).toInt; have k_0 : ((-1) : Int32).toInt = -1 := (by decide +kernel); omega), (by show (mi 24).toInt ≤ 4; have k_0 : ((-1) : Int32).toInt = -1 := (by decide +kernel); omega), (by show (mi 24).toInt ≤ 4 * (mi 22).toInt - 4 * (mi 23).toInt; have k_0 : ((-1) : Int32).toInt = -1 := (by decide +kernel); omega), lf_again, (Or.inl rfl)⟩ (Nat.le_of_ble_eq_true rfl) (Nat.le_of_ble_eq_true rfl) dX12_readNumber_32
    · skip
      have ha_11 : z_high.toInt < (mi 25).toInt := ha_11
      refine lv_if_ne (pc := 24) (tgt := 33) E.1 E.2.1 dX12_readNumber_24 (by decide) (fun c_22 => absurd (meqE (a := 0) (b := 0) (by decide +kernel) (by decide +kernel) (by omega)) c_22) (fun _ => ?_)
      refine lv_aload_n (pc := 27) E.1 E.2.1 dX12_readNumber_27 rfl (lv_at hl3 0 rfl) ?_
      refine lv_iconst (pc := 28) (v := 2) E.1 E.2.1 dX12_readNumber_28 (by decide +kernel) ?_
      refine cm_i (pc := 29) hw8 (rn_M (As := [.int 2]) (rest := []) E hw8 (s_errs2 l D cI cJ _ M mr mi mf mg 2) (gdV q_1698 q_1700 q_60 q_162 q_1701) hdV_X12_errs ⟨rfl, rfl⟩ ⟨(Nat.le_of_ble_eq_true rfl), (Nat.le_of_ble_eq_true rfl)⟩ ⟨(Nat.le_of_ble_eq_true rfl), (Nat.le_of_ble_eq_true rfl)⟩ 12 rfl rfl rfl rfl hl3.1 rfl (Nat.le_of_ble_eq_true rfl) dX12_readNumber_29) (fun r_24 u_23 H1 locs hp hw25 => ?_)
      obtain ⟨nreadFault_26, nreadPlace_27⟩ := u_23
      generalize H1 = H at hw25 ⊢
      have hw28 : WD D A s.heap (MW cI cJ M mr (upd (upd mi 38 nreadFault_26) 39 nreadPlace_27) mf mg) H locs := hw25
      have hp_29 := hp
      rcases hp_29 with rfl
      · skip
        exact em_i (w1 := (fun (u : Int32 × Int32 × Int32 × Int32 × Int32 × Int32) => (MW cI cJ M mr (upd (upd (upd (upd (upd (upd mi 22 u.1) 23 u.2.1) 24 u.2.2.1) 25 u.2.2.2.1) 38 u.2.2.2.2.1) 39 u.2.2.2.2.2) mf mg))) E hr hlk ((mi 22), (mi 23), (mi 24), (mi 25), nreadFault_26, nreadPlace_27) hw28 ⟨(by show 0 ≤ (mi 23).toInt; have k_0 : ((-1) : Int32).toInt = -1 := (by decide +kernel); omega), (by show (mi 23).toInt ≤ (mi 22).toInt; have k_0 : ((-1) : Int32).toInt = -1 := (by decide +kernel); omega), (by show (mi 22).toInt ≤ (mi 21).toInt; have k_0 : ((-1) : Int32).toInt = -1 := (by decide +kernel); omega), (by show 0 ≤ (mi 24).toInt; have k_0 : ((-1) : Int32).toInt = -1 := (by decide +kernel); omega), (by show (mi 24).toInt ≤ 4; have k_0 : ((-1) : Int32).toInt = -1 := (by decide +kernel); omega), (by show (mi 24).toInt ≤ 4 * (mi 22).toInt - 4 * (mi 23).toInt; have k_0 : ((-1) : Int32).toInt = -1 := (by decide +kernel); omega), lf_again, (Or.inl rfl)⟩ (Nat.le_of_ble_eq_true rfl) (Nat.le_of_ble_eq_true rfl) dX12_readNumber_32
    · skip
      have ha_12 : z_low.toInt ≤ (mi 25).toInt := ha_12
      have ha_13 : (mi 25).toInt ≤ z_high.toInt := ha_13
      refine lv_if_ne (pc := 24) (tgt := 33) E.1 E.2.1 dX12_readNumber_24 (by decide) (fun _ => ?_) (fun c_30 => absurd c_30 (mneE (a := 1) (b := 0) (by decide +kernel) (by decide +kernel) (by omega)))
      refine lv_aload_n (pc := 33) E.1 E.2.1 dX12_readNumber_33 rfl (lv_at hl3 0 rfl) ?_
      refine x_get (pc := 34) (T := TX12) (N := 70) (ci := 12) (v := .int (mi 25)) E hw8 inX12 0 25 q_1424 rfl rfl (by decide) rfl rfl dX12_readNumber_34 ?_
      refine lv_istore_n (pc := 37) (lv' := [(3, .int (mi 25)), (0, .ref M), (1, .int z_low), (2, .int z_high)]) E.1 E.2.1 dX12_readNumber_37 rfl hl3 (by decide) rfl (fun ls hl31 => ?_)
      refine lv_aload_n (pc := 38) E.1 E.2.1 dX12_readNumber_38 rfl (lv_at hl31 1 rfl) ?_
      refine cm_v (pc := 39) hw8 (rn_M (As := []) (rest := []) E hw8 (s_reads2 l D cI cJ _ M mr mi mf mg (by show 0 ≤ (mi 22).toInt; omega) (by show (mi 22).toInt ≤ (mi 21).toInt; omega) (by show (mi 21).toInt ≤ 400; omega) (by show ((mf 26) 153).toInt = 32; omega) (show (∀ j : Nat, j < 154 → (mf 26) j = w0 j) from lf_words)) (gdV q_1666 q_1668 q_52 q_162 q_1669) hdV_X12_reads ⟨rfl, rfl⟩ ⟨(Nat.le_of_ble_eq_true rfl), (Nat.le_of_ble_eq_true rfl)⟩ ⟨(Nat.le_of_ble_eq_true rfl), (Nat.le_of_ble_eq_true rfl)⟩ 12 rfl rfl rfl rfl hl31.1 rfl (Nat.le_of_ble_eq_true rfl) dX12_readNumber_39) (fun u_32 H1 locs hp hw34 => ?_)
      obtain ⟨nspot_35, nfrom_36, ntoken_37, nvalue_38⟩ := u_32
      generalize H1 = H at hw34 ⊢
      have hw39 : WD D A s.heap (MW cI cJ M mr (upd (upd (upd (upd mi 22 nspot_35) 23 nfrom_36) 24 ntoken_37) 25 nvalue_38) mf mg) H locs := hw34
      obtain ⟨hp_40, hp_41, hp_42, hp_43, hp_44, hp_45, hp_46, hp_47⟩ := hp
      have hp_40 : 0 ≤ nfrom_36.toInt := hp_40
      have hp_41 : nfrom_36.toInt ≤ nspot_35.toInt := hp_41
      have hp_42 : nspot_35.toInt ≤ (mi 21).toInt := hp_42
      have hp_43 : 0 ≤ ntoken_37.toInt := hp_43
      have hp_44 : ntoken_37.toInt ≤ 4 := hp_44
      have hp_45 : ntoken_37.toInt ≤ 4 * nspot_35.toInt - 4 * nfrom_36.toInt := hp_45
      have hp_46 : (mi 22).toInt ≤ nfrom_36.toInt := hp_46
      have hp_47 : (ntoken_37.toInt = 2 → nvalue_38.toInt = 30 → nfrom_36.toInt + 3 ≤ nspot_35.toInt) := hp_47
      refine lv_iload_n (pc := 42) E.1 E.2.1 dX12_readNumber_42 rfl (lv_at hl31 0 rfl) ?_
      exact em_i (w1 := (fun (u : Int32 × Int32 × Int32 × Int32 × Int32 × Int32) => (MW cI cJ M mr (upd (upd (upd (upd (upd (upd mi 22 u.1) 23 u.2.1) 24 u.2.2.1) 25 u.2.2.2.1) 38 u.2.2.2.2.1) 39 u.2.2.2.2.2) mf mg))) E hr hlk (nspot_35, nfrom_36, ntoken_37, nvalue_38, (mi 38), (mi 39)) hw39 ⟨(by show 0 ≤ nfrom_36.toInt; omega), (by show nfrom_36.toInt ≤ nspot_35.toInt; omega), (by show nspot_35.toInt ≤ (mi 21).toInt; omega), (by show 0 ≤ ntoken_37.toInt; omega), (by show ntoken_37.toInt ≤ 4; omega), (by show ntoken_37.toInt ≤ 4 * nspot_35.toInt - 4 * nfrom_36.toInt; omega), hp_47, (Or.inr (⟨(by show z_low.toInt ≤ (mi 25).toInt; omega), (by show (mi 25).toInt ≤ z_high.toInt; omega), (by show (mi 23).toInt + 1 ≤ nfrom_36.toInt; omega)⟩))⟩ (Nat.le_of_ble_eq_true rfl) (Nat.le_of_ble_eq_true rfl) dX12_readNumber_43
  · skip
    have hc_4 := neE (a := (mi 24).toInt) (b := 3) rfl (by decide +kernel) c_4
    refine lv_aload_n (pc := 8) E.1 E.2.1 dX12_readNumber_8 rfl (lv_at hl3 0 rfl) ?_
    refine lv_iconst (pc := 9) (v := 1) E.1 E.2.1 dX12_readNumber_9 (by decide +kernel) ?_
    refine cm_i (pc := 10) hw1 (rn_M (As := [.int 1]) (rest := []) E hw1 (s_errs2 l D cI cJ _ M mr mi mf mg 1) (gdV q_1698 q_1700 q_60 q_162 q_1701) hdV_X12_errs ⟨rfl, rfl⟩ ⟨(Nat.le_of_ble_eq_true rfl), (Nat.le_of_ble_eq_true rfl)⟩ ⟨(Nat.le_of_ble_eq_true rfl), (Nat.le_of_ble_eq_true rfl)⟩ 12 rfl rfl rfl rfl hl3.1 rfl (Nat.le_of_ble_eq_true rfl) dX12_readNumber_10) (fun r_49 u_48 H1 locs hp hw50 => ?_)
    obtain ⟨nreadFault_51, nreadPlace_52⟩ := u_48
    generalize H1 = H at hw50 ⊢
    have hw53 : WD D A s.heap (MW cI cJ M mr (upd (upd mi 38 nreadFault_51) 39 nreadPlace_52) mf mg) H locs := hw50
    have hp_54 := hp
    rcases hp_54 with rfl
    · skip
      exact em_i (w1 := (fun (u : Int32 × Int32 × Int32 × Int32 × Int32 × Int32) => (MW cI cJ M mr (upd (upd (upd (upd (upd (upd mi 22 u.1) 23 u.2.1) 24 u.2.2.1) 25 u.2.2.2.1) 38 u.2.2.2.2.1) 39 u.2.2.2.2.2) mf mg))) E hr hlk ((mi 22), (mi 23), (mi 24), (mi 25), nreadFault_51, nreadPlace_52) hw53 ⟨(by show 0 ≤ (mi 23).toInt; have k_0 : ((-1) : Int32).toInt = -1 := (by decide +kernel); omega), (by show (mi 23).toInt ≤ (mi 22).toInt; have k_0 : ((-1) : Int32).toInt = -1 := (by decide +kernel); omega), (by show (mi 22).toInt ≤ (mi 21).toInt; have k_0 : ((-1) : Int32).toInt = -1 := (by decide +kernel); omega), (by show 0 ≤ (mi 24).toInt; have k_0 : ((-1) : Int32).toInt = -1 := (by decide +kernel); omega), (by show (mi 24).toInt ≤ 4; have k_0 : ((-1) : Int32).toInt = -1 := (by decide +kernel); omega), (by show (mi 24).toInt ≤ 4 * (mi 22).toInt - 4 * (mi 23).toInt; have k_0 : ((-1) : Int32).toInt = -1 := (by decide +kernel); omega), lf_again, (Or.inl rfl)⟩ (Nat.le_of_ble_eq_true rfl) (Nat.le_of_ble_eq_true rfl) dX12_readNumber_13

set_option maxHeartbeats 4000000 in
set_option maxRecDepth 100000 in
theorem s_readWord (l : Launch) (D : va_G) (cI cJ : ClassId) (sz M : Nat) (mr : Nat → Nat) (mi : Nat → Int32) (mf : Nat → Nat → Int32) (mg : Nat → Nat → Int64) (z_w : Int32) (h0 : 0 ≤ (mi 23).toInt) (h1 : (mi 23).toInt ≤ (mi 22).toInt) (h2 : (mi 22).toInt ≤ (mi 21).toInt) (h3 : (mi 21).toInt ≤ 400) (h4 : 0 ≤ (mi 24).toInt) (h5 : (mi 24).toInt ≤ 4) (h6 : (mi 24).toInt ≤ 4 * (mi 22).toInt - 4 * (mi 23).toInt) (h7 : ((mf 26) 153).toInt = 32) (lf_words : (∀ j : Nat, j < 154 → (mf 26) j = w0 j)) (lf_again : ((mi 24).toInt = 2 → (mi 25).toInt = 30 → (mi 23).toInt + 3 ≤ (mi 22).toInt)) : Met l yX12_readWord (Cond.code yX12_readWord cX12_readWord 2 (some .int) :: GW) ({ frames := 4, cells := 0, slots := 0, locals := 105 } : Room) (va_Pc [.ref M, .int z_w] (PW D cI cJ sz (MW cI cJ M mr mi mf mg) xT)) (va_Qi (fun (r : Int32) (u : Int32 × Int32 × Int32 × Int32 × Int32 × Int32) => (0 ≤ u.2.1.toInt) ∧ (u.2.1.toInt ≤ u.1.toInt) ∧ (u.1.toInt ≤ (mi 21).toInt) ∧ (0 ≤ u.2.2.1.toInt) ∧ (u.2.2.1.toInt ≤ 4) ∧ (u.2.2.1.toInt ≤ 4 * u.1.toInt - 4 * u.2.1.toInt) ∧ ((u.2.2.1.toInt = 2 → u.2.2.2.1.toInt = 30 → u.2.1.toInt + 3 ≤ u.1.toInt)) ∧ ((r = (-1)) ∨ (r = 0 ∧ (mi 23).toInt + 1 ≤ u.2.1.toInt))) (fun u => QW D cI cJ (va_A (MW cI cJ M mr mi mf mg) sz) ((fun (u : Int32 × Int32 × Int32 × Int32 × Int32 × Int32) => (MW cI cJ M mr (upd (upd (upd (upd (upd (upd mi 22 u.1) 23 u.2.1) 24 u.2.2.1) 25 u.2.2.2.1) 38 u.2.2.2.2.1) 39 u.2.2.2.2.2) mf mg)) u)) (va_A (MW cI cJ M mr mi mf mg) sz)) 0 0 (va_A (MW cI cJ M mr mi mf mg) sz) := by
  refine mk_met (y := yX12_readWord) (bytes := cX12_readWord) (maxL := 2) (avs := [.ref M, .int z_w]) (WS := (MW cI cJ M mr mi mf mg)) (Qf := fun A => va_Qi (fun (r : Int32) (u : Int32 × Int32 × Int32 × Int32 × Int32 × Int32) => (0 ≤ u.2.1.toInt) ∧ (u.2.1.toInt ≤ u.1.toInt) ∧ (u.1.toInt ≤ (mi 21).toInt) ∧ (0 ≤ u.2.2.1.toInt) ∧ (u.2.2.1.toInt ≤ 4) ∧ (u.2.2.1.toInt ≤ 4 * u.1.toInt - 4 * u.2.1.toInt) ∧ ((u.2.2.1.toInt = 2 → u.2.2.2.1.toInt = 30 → u.2.1.toInt + 3 ≤ u.1.toInt)) ∧ ((r = (-1)) ∨ (r = 0 ∧ (mi 23).toInt + 1 ≤ u.2.1.toInt))) (fun u => QW D cI cJ A ((fun (u : Int32 × Int32 × Int32 × Int32 × Int32 × Int32) => (MW cI cJ M mr (upd (upd (upd (upd (upd (upd mi 22 u.1) 23 u.2.1) 24 u.2.2.1) 25 u.2.2.2.1) 38 u.2.2.2.2.1) 39 u.2.2.2.2.2) mf mg)) u)) A) (by decide) (Nat.le_of_ble_eq_true rfl) ?_
  intro p e s m below meth c A ls E hr hlk hnm hX hw1 hl2
  have hl3 : lv_has ls 2 [(0, .ref M), (1, .int z_w)] := hl2
  refine lv_aload_n (pc := 0) E.1 E.2.1 dX12_readWord_0 rfl (lv_at hl3 0 rfl) ?_
  refine lv_iload_n (pc := 1) E.1 E.2.1 dX12_readWord_1 rfl (lv_at hl3 1 rfl) ?_
  refine cm_i (pc := 2) hw1 (rn_M (As := [.int z_w]) (rest := []) E hw1 (s_isWord3 l D cI cJ _ M mr mi mf mg z_w) (gdV q_1694 q_1696 q_59 q_162 q_1697) hdV_X12_isWord ⟨rfl, rfl⟩ ⟨(Nat.le_of_ble_eq_true rfl), (Nat.le_of_ble_eq_true rfl)⟩ ⟨(Nat.le_of_ble_eq_true rfl), (Nat.le_of_ble_eq_true rfl)⟩ 12 rfl rfl rfl rfl hl3.1 rfl (Nat.le_of_ble_eq_true rfl) dX12_readWord_2) (fun r_5 u_4 H1 locs hp hw6 => ?_)
  generalize H1 = H at hw6 ⊢
  have hw7 : WD D A s.heap (MW cI cJ M mr mi mf mg) H locs := hw6
  have hp_8 := hp
  rcases hp_8 with ⟨rfl, ha_9, ha_10⟩ | ⟨rfl, ha_11⟩ | ⟨rfl, ha_12⟩
  · skip
    have ha_9 : (mi 24).toInt = 2 := ha_9
    have ha_10 : (mi 25).toInt = z_w.toInt := ha_10
    refine lv_if_ne (pc := 5) (tgt := 14) E.1 E.2.1 dX12_readWord_5 (by decide) (fun _ => ?_) (fun c_13 => absurd c_13 (mneE (a := 1) (b := 0) (by decide +kernel) (by decide +kernel) (by omega)))
    refine lv_aload_n (pc := 14) E.1 E.2.1 dX12_readWord_14 rfl (lv_at hl3 0 rfl) ?_
    refine cm_v (pc := 15) hw7 (rn_M (As := []) (rest := []) E hw7 (s_reads2 l D cI cJ _ M mr mi mf mg (by show 0 ≤ (mi 22).toInt; omega) (by show (mi 22).toInt ≤ (mi 21).toInt; omega) (by show (mi 21).toInt ≤ 400; omega) (by show ((mf 26) 153).toInt = 32; omega) (show (∀ j : Nat, j < 154 → (mf 26) j = w0 j) from lf_words)) (gdV q_1666 q_1668 q_52 q_162 q_1669) hdV_X12_reads ⟨rfl, rfl⟩ ⟨(Nat.le_of_ble_eq_true rfl), (Nat.le_of_ble_eq_true rfl)⟩ ⟨(Nat.le_of_ble_eq_true rfl), (Nat.le_of_ble_eq_true rfl)⟩ 12 rfl rfl rfl rfl hl3.1 rfl (Nat.le_of_ble_eq_true rfl) dX12_readWord_15) (fun u_14 H1 locs hp hw16 => ?_)
    obtain ⟨nspot_17, nfrom_18, ntoken_19, nvalue_20⟩ := u_14
    generalize H1 = H at hw16 ⊢
    have hw21 : WD D A s.heap (MW cI cJ M mr (upd (upd (upd (upd mi 22 nspot_17) 23 nfrom_18) 24 ntoken_19) 25 nvalue_20) mf mg) H locs := hw16
    obtain ⟨hp_22, hp_23, hp_24, hp_25, hp_26, hp_27, hp_28, hp_29⟩ := hp
    have hp_22 : 0 ≤ nfrom_18.toInt := hp_22
    have hp_23 : nfrom_18.toInt ≤ nspot_17.toInt := hp_23
    have hp_24 : nspot_17.toInt ≤ (mi 21).toInt := hp_24
    have hp_25 : 0 ≤ ntoken_19.toInt := hp_25
    have hp_26 : ntoken_19.toInt ≤ 4 := hp_26
    have hp_27 : ntoken_19.toInt ≤ 4 * nspot_17.toInt - 4 * nfrom_18.toInt := hp_27
    have hp_28 : (mi 22).toInt ≤ nfrom_18.toInt := hp_28
    have hp_29 : (ntoken_19.toInt = 2 → nvalue_20.toInt = 30 → nfrom_18.toInt + 3 ≤ nspot_17.toInt) := hp_29
    refine lv_iconst (pc := 18) (v := 0) E.1 E.2.1 dX12_readWord_18 (by decide +kernel) ?_
    exact em_i (w1 := (fun (u : Int32 × Int32 × Int32 × Int32 × Int32 × Int32) => (MW cI cJ M mr (upd (upd (upd (upd (upd (upd mi 22 u.1) 23 u.2.1) 24 u.2.2.1) 25 u.2.2.2.1) 38 u.2.2.2.2.1) 39 u.2.2.2.2.2) mf mg))) E hr hlk (nspot_17, nfrom_18, ntoken_19, nvalue_20, (mi 38), (mi 39)) hw21 ⟨(by show 0 ≤ nfrom_18.toInt; have k_0 : (0 : Int32).toInt = 0 := (by decide +kernel); omega), (by show nfrom_18.toInt ≤ nspot_17.toInt; have k_0 : (0 : Int32).toInt = 0 := (by decide +kernel); omega), (by show nspot_17.toInt ≤ (mi 21).toInt; have k_0 : (0 : Int32).toInt = 0 := (by decide +kernel); omega), (by show 0 ≤ ntoken_19.toInt; have k_0 : (0 : Int32).toInt = 0 := (by decide +kernel); omega), (by show ntoken_19.toInt ≤ 4; have k_0 : (0 : Int32).toInt = 0 := (by decide +kernel); omega), (by show ntoken_19.toInt ≤ 4 * nspot_17.toInt - 4 * nfrom_18.toInt; have k_0 : (0 : Int32).toInt = 0 := (by decide +kernel); omega), hp_29, (Or.inr (⟨rfl, (by show (mi 23).toInt + 1 ≤ nfrom_18.toInt; omega)⟩))⟩ (Nat.le_of_ble_eq_true rfl) (Nat.le_of_ble_eq_true rfl) dX12_readWord_19
  · skip
    have ha_11 : ¬ (mi 24).toInt = 2 := ha_11
    refine lv_if_ne (pc := 5) (tgt := 14) E.1 E.2.1 dX12_readWord_5 (by decide) (fun c_30 => absurd (meqE (a := 0) (b := 0) (by decide +kernel) (by decide +kernel) (by omega)) c_30) (fun _ => ?_)
    refine lv_aload_n (pc := 8) E.1 E.2.1 dX12_readWord_8 rfl (lv_at hl3 0 rfl) ?_
    refine lv_iconst (pc := 9) (v := 1) E.1 E.2.1 dX12_readWord_9 (by decide +kernel) ?_
    refine cm_i (pc := 10) hw7 (rn_M (As := [.int 1]) (rest := []) E hw7 (s_errs2 l D cI cJ _ M mr mi mf mg 1) (gdV q_1698 q_1700 q_60 q_162 q_1701) hdV_X12_errs ⟨rfl, rfl⟩ ⟨(Nat.le_of_ble_eq_true rfl), (Nat.le_of_ble_eq_true rfl)⟩ ⟨(Nat.le_of_ble_eq_true rfl), (Nat.le_of_ble_eq_true rfl)⟩ 12 rfl rfl rfl rfl hl3.1 rfl (Nat.le_of_ble_eq_true rfl) dX12_readWord_10) (fun r_32 u_31 H1 locs hp hw33 => ?_)
    obtain ⟨nreadFault_34, nreadPlace_35⟩ := u_31
    generalize H1 = H at hw33 ⊢
    have hw36 : WD D A s.heap (MW cI cJ M mr (upd (upd mi 38 nreadFault_34) 39 nreadPlace_35) mf mg) H locs := hw33
    have hp_37 := hp
    rcases hp_37 with rfl
    · skip
      exact em_i (w1 := (fun (u : Int32 × Int32 × Int32 × Int32 × Int32 × Int32) => (MW cI cJ M mr (upd (upd (upd (upd (upd (upd mi 22 u.1) 23 u.2.1) 24 u.2.2.1) 25 u.2.2.2.1) 38 u.2.2.2.2.1) 39 u.2.2.2.2.2) mf mg))) E hr hlk ((mi 22), (mi 23), (mi 24), (mi 25), nreadFault_34, nreadPlace_35) hw36 ⟨(by show 0 ≤ (mi 23).toInt; have k_0 : ((-1) : Int32).toInt = -1 := (by decide +kernel); omega), (by show (mi 23).toInt ≤ (mi 22).toInt; have k_0 : ((-1) : Int32).toInt = -1 := (by decide +kernel); omega), (by show (mi 22).toInt ≤ (mi 21).toInt; have k_0 : ((-1) : Int32).toInt = -1 := (by decide +kernel); omega), (by show 0 ≤ (mi 24).toInt; have k_0 : ((-1) : Int32).toInt = -1 := (by decide +kernel); omega), (by show (mi 24).toInt ≤ 4; have k_0 : ((-1) : Int32).toInt = -1 := (by decide +kernel); omega), (by show (mi 24).toInt ≤ 4 * (mi 22).toInt - 4 * (mi 23).toInt; have k_0 : ((-1) : Int32).toInt = -1 := (by decide +kernel); omega), lf_again, (Or.inl rfl)⟩ (Nat.le_of_ble_eq_true rfl) (Nat.le_of_ble_eq_true rfl) dX12_readWord_13
  · skip
    have ha_12 : ¬ (mi 25).toInt = z_w.toInt := ha_12
    refine lv_if_ne (pc := 5) (tgt := 14) E.1 E.2.1 dX12_readWord_5 (by decide) (fun c_38 => absurd (meqE (a := 0) (b := 0) (by decide +kernel) (by decide +kernel) (by omega)) c_38) (fun _ => ?_)
    refine lv_aload_n (pc := 8) E.1 E.2.1 dX12_readWord_8 rfl (lv_at hl3 0 rfl) ?_
    refine lv_iconst (pc := 9) (v := 1) E.1 E.2.1 dX12_readWord_9 (by decide +kernel) ?_
    refine cm_i (pc := 10) hw7 (rn_M (As := [.int 1]) (rest := []) E hw7 (s_errs2 l D cI cJ _ M mr mi mf mg 1) (gdV q_1698 q_1700 q_60 q_162 q_1701) hdV_X12_errs ⟨rfl, rfl⟩ ⟨(Nat.le_of_ble_eq_true rfl), (Nat.le_of_ble_eq_true rfl)⟩ ⟨(Nat.le_of_ble_eq_true rfl), (Nat.le_of_ble_eq_true rfl)⟩ 12 rfl rfl rfl rfl hl3.1 rfl (Nat.le_of_ble_eq_true rfl) dX12_readWord_10) (fun r_40 u_39 H1 locs hp hw41 => ?_)
    obtain ⟨nreadFault_42, nreadPlace_43⟩ := u_39
    generalize H1 = H at hw41 ⊢
    have hw44 : WD D A s.heap (MW cI cJ M mr (upd (upd mi 38 nreadFault_42) 39 nreadPlace_43) mf mg) H locs := hw41
    have hp_45 := hp
    rcases hp_45 with rfl
    · skip
      exact em_i (w1 := (fun (u : Int32 × Int32 × Int32 × Int32 × Int32 × Int32) => (MW cI cJ M mr (upd (upd (upd (upd (upd (upd mi 22 u.1) 23 u.2.1) 24 u.2.2.1) 25 u.2.2.2.1) 38 u.2.2.2.2.1) 39 u.2.2.2.2.2) mf mg))) E hr hlk ((mi 22), (mi 23), (mi 24), (mi 25), nreadFault_42, nreadPlace_43) hw44 ⟨(by show 0 ≤ (mi 23).toInt; have k_0 : ((-1) : Int32).toInt = -1 := (by decide +kernel); omega), (by show (mi 23).toInt ≤ (mi 22).toInt; have k_0 : ((-1) : Int32).toInt = -1 := (by decide +kernel); omega), (by show (mi 22).toInt ≤ (mi 21).toInt; have k_0 : ((-1) : Int32).toInt = -1 := (by decide +kernel); omega), (by show 0 ≤ (mi 24).toInt; have k_0 : ((-1) : Int32).toInt = -1 := (by decide +kernel); omega), (by show (mi 24).toInt ≤ 4; have k_0 : ((-1) : Int32).toInt = -1 := (by decide +kernel); omega), (by show (mi 24).toInt ≤ 4 * (mi 22).toInt - 4 * (mi 23).toInt; have k_0 : ((-1) : Int32).toInt = -1 := (by decide +kernel); omega), lf_again, (Or.inl rfl)⟩ (Nat.le_of_ble_eq_true rfl) (Nat.le_of_ble_eq_true rfl) dX12_readWord_13

set_option maxHeartbeats 4000000 in
set_option maxRecDepth 100000 in
theorem s_readMark (l : Launch) (D : va_G) (cI cJ : ClassId) (sz M : Nat) (mr : Nat → Nat) (mi : Nat → Int32) (mf : Nat → Nat → Int32) (mg : Nat → Nat → Int64) (z_c : Int32) (h0 : 0 ≤ (mi 23).toInt) (h1 : (mi 23).toInt ≤ (mi 22).toInt) (h2 : (mi 22).toInt ≤ (mi 21).toInt) (h3 : (mi 21).toInt ≤ 400) (h4 : 0 ≤ (mi 24).toInt) (h5 : (mi 24).toInt ≤ 4) (h6 : (mi 24).toInt ≤ 4 * (mi 22).toInt - 4 * (mi 23).toInt) (h7 : ((mf 26) 153).toInt = 32) (lf_words : (∀ j : Nat, j < 154 → (mf 26) j = w0 j)) (lf_again : ((mi 24).toInt = 2 → (mi 25).toInt = 30 → (mi 23).toInt + 3 ≤ (mi 22).toInt)) : Met l yX12_readMark (Cond.code yX12_readMark cX12_readMark 2 (some .int) :: GW) ({ frames := 4, cells := 0, slots := 0, locals := 105 } : Room) (va_Pc [.ref M, .int z_c] (PW D cI cJ sz (MW cI cJ M mr mi mf mg) xT)) (va_Qi (fun (r : Int32) (u : Int32 × Int32 × Int32 × Int32 × Int32 × Int32) => (0 ≤ u.2.1.toInt) ∧ (u.2.1.toInt ≤ u.1.toInt) ∧ (u.1.toInt ≤ (mi 21).toInt) ∧ (0 ≤ u.2.2.1.toInt) ∧ (u.2.2.1.toInt ≤ 4) ∧ (u.2.2.1.toInt ≤ 4 * u.1.toInt - 4 * u.2.1.toInt) ∧ ((u.2.2.1.toInt = 2 → u.2.2.2.1.toInt = 30 → u.2.1.toInt + 3 ≤ u.1.toInt)) ∧ ((r = (-1)) ∨ (r = 0 ∧ (mi 23).toInt + 1 ≤ u.2.1.toInt))) (fun u => QW D cI cJ (va_A (MW cI cJ M mr mi mf mg) sz) ((fun (u : Int32 × Int32 × Int32 × Int32 × Int32 × Int32) => (MW cI cJ M mr (upd (upd (upd (upd (upd (upd mi 22 u.1) 23 u.2.1) 24 u.2.2.1) 25 u.2.2.2.1) 38 u.2.2.2.2.1) 39 u.2.2.2.2.2) mf mg)) u)) (va_A (MW cI cJ M mr mi mf mg) sz)) 0 0 (va_A (MW cI cJ M mr mi mf mg) sz) := by
  refine mk_met (y := yX12_readMark) (bytes := cX12_readMark) (maxL := 2) (avs := [.ref M, .int z_c]) (WS := (MW cI cJ M mr mi mf mg)) (Qf := fun A => va_Qi (fun (r : Int32) (u : Int32 × Int32 × Int32 × Int32 × Int32 × Int32) => (0 ≤ u.2.1.toInt) ∧ (u.2.1.toInt ≤ u.1.toInt) ∧ (u.1.toInt ≤ (mi 21).toInt) ∧ (0 ≤ u.2.2.1.toInt) ∧ (u.2.2.1.toInt ≤ 4) ∧ (u.2.2.1.toInt ≤ 4 * u.1.toInt - 4 * u.2.1.toInt) ∧ ((u.2.2.1.toInt = 2 → u.2.2.2.1.toInt = 30 → u.2.1.toInt + 3 ≤ u.1.toInt)) ∧ ((r = (-1)) ∨ (r = 0 ∧ (mi 23).toInt + 1 ≤ u.2.1.toInt))) (fun u => QW D cI cJ A ((fun (u : Int32 × Int32 × Int32 × Int32 × Int32 × Int32) => (MW cI cJ M mr (upd (upd (upd (upd (upd (upd mi 22 u.1) 23 u.2.1) 24 u.2.2.1) 25 u.2.2.2.1) 38 u.2.2.2.2.1) 39 u.2.2.2.2.2) mf mg)) u)) A) (by decide) (Nat.le_of_ble_eq_true rfl) ?_
  intro p e s m below meth c A ls E hr hlk hnm hX hw1 hl2
  have hl3 : lv_has ls 2 [(0, .ref M), (1, .int z_c)] := hl2
  refine lv_aload_n (pc := 0) E.1 E.2.1 dX12_readMark_0 rfl (lv_at hl3 0 rfl) ?_
  refine lv_iload_n (pc := 1) E.1 E.2.1 dX12_readMark_1 rfl (lv_at hl3 1 rfl) ?_
  refine cm_i (pc := 2) hw1 (rn_M (As := [.int z_c]) (rest := []) E hw1 (s_isSign3 l D cI cJ _ M mr mi mf mg z_c) (gdV q_1718 q_1720 q_65 q_162 q_1721) hdV_X12_isSign ⟨rfl, rfl⟩ ⟨(Nat.le_of_ble_eq_true rfl), (Nat.le_of_ble_eq_true rfl)⟩ ⟨(Nat.le_of_ble_eq_true rfl), (Nat.le_of_ble_eq_true rfl)⟩ 12 rfl rfl rfl rfl hl3.1 rfl (Nat.le_of_ble_eq_true rfl) dX12_readMark_2) (fun r_5 u_4 H1 locs hp hw6 => ?_)
  generalize H1 = H at hw6 ⊢
  have hw7 : WD D A s.heap (MW cI cJ M mr mi mf mg) H locs := hw6
  have hp_8 := hp
  rcases hp_8 with ⟨rfl, ha_9, ha_10⟩ | ⟨rfl, ha_11⟩ | ⟨rfl, ha_12⟩
  · skip
    have ha_9 : (mi 24).toInt = 4 := ha_9
    have ha_10 : (mi 25).toInt = z_c.toInt := ha_10
    refine lv_if_ne (pc := 5) (tgt := 14) E.1 E.2.1 dX12_readMark_5 (by decide) (fun _ => ?_) (fun c_13 => absurd c_13 (mneE (a := 1) (b := 0) (by decide +kernel) (by decide +kernel) (by omega)))
    refine lv_aload_n (pc := 14) E.1 E.2.1 dX12_readMark_14 rfl (lv_at hl3 0 rfl) ?_
    refine cm_v (pc := 15) hw7 (rn_M (As := []) (rest := []) E hw7 (s_reads2 l D cI cJ _ M mr mi mf mg (by show 0 ≤ (mi 22).toInt; omega) (by show (mi 22).toInt ≤ (mi 21).toInt; omega) (by show (mi 21).toInt ≤ 400; omega) (by show ((mf 26) 153).toInt = 32; omega) (show (∀ j : Nat, j < 154 → (mf 26) j = w0 j) from lf_words)) (gdV q_1666 q_1668 q_52 q_162 q_1669) hdV_X12_reads ⟨rfl, rfl⟩ ⟨(Nat.le_of_ble_eq_true rfl), (Nat.le_of_ble_eq_true rfl)⟩ ⟨(Nat.le_of_ble_eq_true rfl), (Nat.le_of_ble_eq_true rfl)⟩ 12 rfl rfl rfl rfl hl3.1 rfl (Nat.le_of_ble_eq_true rfl) dX12_readMark_15) (fun u_14 H1 locs hp hw16 => ?_)
    obtain ⟨nspot_17, nfrom_18, ntoken_19, nvalue_20⟩ := u_14
    generalize H1 = H at hw16 ⊢
    have hw21 : WD D A s.heap (MW cI cJ M mr (upd (upd (upd (upd mi 22 nspot_17) 23 nfrom_18) 24 ntoken_19) 25 nvalue_20) mf mg) H locs := hw16
    obtain ⟨hp_22, hp_23, hp_24, hp_25, hp_26, hp_27, hp_28, hp_29⟩ := hp
    have hp_22 : 0 ≤ nfrom_18.toInt := hp_22
    have hp_23 : nfrom_18.toInt ≤ nspot_17.toInt := hp_23
    have hp_24 : nspot_17.toInt ≤ (mi 21).toInt := hp_24
    have hp_25 : 0 ≤ ntoken_19.toInt := hp_25
    have hp_26 : ntoken_19.toInt ≤ 4 := hp_26
    have hp_27 : ntoken_19.toInt ≤ 4 * nspot_17.toInt - 4 * nfrom_18.toInt := hp_27
    have hp_28 : (mi 22).toInt ≤ nfrom_18.toInt := hp_28
    have hp_29 : (ntoken_19.toInt = 2 → nvalue_20.toInt = 30 → nfrom_18.toInt + 3 ≤ nspot_17.toInt) := hp_29
    refine lv_iconst (pc := 18) (v := 0) E.1 E.2.1 dX12_readMark_18 (by decide +kernel) ?_
    exact em_i (w1 := (fun (u : Int32 × Int32 × Int32 × Int32 × Int32 × Int32) => (MW cI cJ M mr (upd (upd (upd (upd (upd (upd mi 22 u.1) 23 u.2.1) 24 u.2.2.1) 25 u.2.2.2.1) 38 u.2.2.2.2.1) 39 u.2.2.2.2.2) mf mg))) E hr hlk (nspot_17, nfrom_18, ntoken_19, nvalue_20, (mi 38), (mi 39)) hw21 ⟨(by show 0 ≤ nfrom_18.toInt; have k_0 : (0 : Int32).toInt = 0 := (by decide +kernel); omega), (by show nfrom_18.toInt ≤ nspot_17.toInt; have k_0 : (0 : Int32).toInt = 0 := (by decide +kernel); omega), (by show nspot_17.toInt ≤ (mi 21).toInt; have k_0 : (0 : Int32).toInt = 0 := (by decide +kernel); omega), (by show 0 ≤ ntoken_19.toInt; have k_0 : (0 : Int32).toInt = 0 := (by decide +kernel); omega), (by show ntoken_19.toInt ≤ 4; have k_0 : (0 : Int32).toInt = 0 := (by decide +kernel); omega), (by show ntoken_19.toInt ≤ 4 * nspot_17.toInt - 4 * nfrom_18.toInt; have k_0 : (0 : Int32).toInt = 0 := (by decide +kernel); omega), hp_29, (Or.inr (⟨rfl, (by show (mi 23).toInt + 1 ≤ nfrom_18.toInt; omega)⟩))⟩ (Nat.le_of_ble_eq_true rfl) (Nat.le_of_ble_eq_true rfl) dX12_readMark_19
  · skip
    have ha_11 : ¬ (mi 24).toInt = 4 := ha_11
    refine lv_if_ne (pc := 5) (tgt := 14) E.1 E.2.1 dX12_readMark_5 (by decide) (fun c_30 => absurd (meqE (a := 0) (b := 0) (by decide +kernel) (by decide +kernel) (by omega)) c_30) (fun _ => ?_)
    refine lv_aload_n (pc := 8) E.1 E.2.1 dX12_readMark_8 rfl (lv_at hl3 0 rfl) ?_
    refine lv_iconst (pc := 9) (v := 1) E.1 E.2.1 dX12_readMark_9 (by decide +kernel) ?_
    refine cm_i (pc := 10) hw7 (rn_M (As := [.int 1]) (rest := []) E hw7 (s_errs2 l D cI cJ _ M mr mi mf mg 1) (gdV q_1698 q_1700 q_60 q_162 q_1701) hdV_X12_errs ⟨rfl, rfl⟩ ⟨(Nat.le_of_ble_eq_true rfl), (Nat.le_of_ble_eq_true rfl)⟩ ⟨(Nat.le_of_ble_eq_true rfl), (Nat.le_of_ble_eq_true rfl)⟩ 12 rfl rfl rfl rfl hl3.1 rfl (Nat.le_of_ble_eq_true rfl) dX12_readMark_10) (fun r_32 u_31 H1 locs hp hw33 => ?_)
    obtain ⟨nreadFault_34, nreadPlace_35⟩ := u_31
    generalize H1 = H at hw33 ⊢
    have hw36 : WD D A s.heap (MW cI cJ M mr (upd (upd mi 38 nreadFault_34) 39 nreadPlace_35) mf mg) H locs := hw33
    have hp_37 := hp
    rcases hp_37 with rfl
    · skip
      exact em_i (w1 := (fun (u : Int32 × Int32 × Int32 × Int32 × Int32 × Int32) => (MW cI cJ M mr (upd (upd (upd (upd (upd (upd mi 22 u.1) 23 u.2.1) 24 u.2.2.1) 25 u.2.2.2.1) 38 u.2.2.2.2.1) 39 u.2.2.2.2.2) mf mg))) E hr hlk ((mi 22), (mi 23), (mi 24), (mi 25), nreadFault_34, nreadPlace_35) hw36 ⟨(by show 0 ≤ (mi 23).toInt; have k_0 : ((-1) : Int32).toInt = -1 := (by decide +kernel); omega), (by show (mi 23).toInt ≤ (mi 22).toInt; have k_0 : ((-1) : Int32).toInt = -1 := (by decide +kernel); omega), (by show (mi 22).toInt ≤ (mi 21).toInt; have k_0 : ((-1) : Int32).toInt = -1 := (by decide +kernel); omega), (by show 0 ≤ (mi 24).toInt; have k_0 : ((-1) : Int32).toInt = -1 := (by decide +kernel); omega), (by show (mi 24).toInt ≤ 4; have k_0 : ((-1) : Int32).toInt = -1 := (by decide +kernel); omega), (by show (mi 24).toInt ≤ 4 * (mi 22).toInt - 4 * (mi 23).toInt; have k_0 : ((-1) : Int32).toInt = -1 := (by decide +kernel); omega), lf_again, (Or.inl rfl)⟩ (Nat.le_of_ble_eq_true rfl) (Nat.le_of_ble_eq_true rfl) dX12_readMark_13
  · skip
    have ha_12 : ¬ (mi 25).toInt = z_c.toInt := ha_12
    refine lv_if_ne (pc := 5) (tgt := 14) E.1 E.2.1 dX12_readMark_5 (by decide) (fun c_38 => absurd (meqE (a := 0) (b := 0) (by decide +kernel) (by decide +kernel) (by omega)) c_38) (fun _ => ?_)
    refine lv_aload_n (pc := 8) E.1 E.2.1 dX12_readMark_8 rfl (lv_at hl3 0 rfl) ?_
    refine lv_iconst (pc := 9) (v := 1) E.1 E.2.1 dX12_readMark_9 (by decide +kernel) ?_
    refine cm_i (pc := 10) hw7 (rn_M (As := [.int 1]) (rest := []) E hw7 (s_errs2 l D cI cJ _ M mr mi mf mg 1) (gdV q_1698 q_1700 q_60 q_162 q_1701) hdV_X12_errs ⟨rfl, rfl⟩ ⟨(Nat.le_of_ble_eq_true rfl), (Nat.le_of_ble_eq_true rfl)⟩ ⟨(Nat.le_of_ble_eq_true rfl), (Nat.le_of_ble_eq_true rfl)⟩ 12 rfl rfl rfl rfl hl3.1 rfl (Nat.le_of_ble_eq_true rfl) dX12_readMark_10) (fun r_40 u_39 H1 locs hp hw41 => ?_)
    obtain ⟨nreadFault_42, nreadPlace_43⟩ := u_39
    generalize H1 = H at hw41 ⊢
    have hw44 : WD D A s.heap (MW cI cJ M mr (upd (upd mi 38 nreadFault_42) 39 nreadPlace_43) mf mg) H locs := hw41
    have hp_45 := hp
    rcases hp_45 with rfl
    · skip
      exact em_i (w1 := (fun (u : Int32 × Int32 × Int32 × Int32 × Int32 × Int32) => (MW cI cJ M mr (upd (upd (upd (upd (upd (upd mi 22 u.1) 23 u.2.1) 24 u.2.2.1) 25 u.2.2.2.1) 38 u.2.2.2.2.1) 39 u.2.2.2.2.2) mf mg))) E hr hlk ((mi 22), (mi 23), (mi 24), (mi 25), nreadFault_42, nreadPlace_43) hw44 ⟨(by show 0 ≤ (mi 23).toInt; have k_0 : ((-1) : Int32).toInt = -1 := (by decide +kernel); omega), (by show (mi 23).toInt ≤ (mi 22).toInt; have k_0 : ((-1) : Int32).toInt = -1 := (by decide +kernel); omega), (by show (mi 22).toInt ≤ (mi 21).toInt; have k_0 : ((-1) : Int32).toInt = -1 := (by decide +kernel); omega), (by show 0 ≤ (mi 24).toInt; have k_0 : ((-1) : Int32).toInt = -1 := (by decide +kernel); omega), (by show (mi 24).toInt ≤ 4; have k_0 : ((-1) : Int32).toInt = -1 := (by decide +kernel); omega), (by show (mi 24).toInt ≤ 4 * (mi 22).toInt - 4 * (mi 23).toInt; have k_0 : ((-1) : Int32).toInt = -1 := (by decide +kernel); omega), lf_again, (Or.inl rfl)⟩ (Nat.le_of_ble_eq_true rfl) (Nat.le_of_ble_eq_true rfl) dX12_readMark_13

set_option maxHeartbeats 4000000 in
set_option maxRecDepth 100000 in
theorem s_readPath (l : Launch) (D : va_G) (cI cJ : ClassId) (sz M : Nat) (mr : Nat → Nat) (mi : Nat → Int32) (mf : Nat → Nat → Int32) (mg : Nat → Nat → Int64) (z_at : Int32) (h0 : 0 ≤ (mi 23).toInt) (h1 : (mi 23).toInt ≤ (mi 22).toInt) (h2 : (mi 22).toInt ≤ (mi 21).toInt) (h3 : (mi 21).toInt ≤ 400) (h4 : 0 ≤ (mi 24).toInt) (h5 : (mi 24).toInt ≤ 4) (h6 : (mi 24).toInt ≤ 4 * (mi 22).toInt - 4 * (mi 23).toInt) (h7 : ((mf 26) 153).toInt = 32) (h8 : 0 ≤ (mi 6).toInt ∧ (mi 6).toInt ≤ 10) (h9 : 160 ≤ z_at.toInt ∧ z_at.toInt ≤ 316) (a_paths : pathsOK (mf 43)) (lf_words : (∀ j : Nat, j < 154 → (mf 26) j = w0 j)) (lf_again : ((mi 24).toInt = 2 → (mi 25).toInt = 30 → (mi 23).toInt + 3 ≤ (mi 22).toInt)) : Met l yX12_readPath (Cond.code yX12_readPath cX12_readPath 2 (some .int) :: GW) ({ frames := 5, cells := 0, slots := 0, locals := 128 } : Room) (va_Pc [.ref M, .int z_at] (PW D cI cJ sz (MW cI cJ M mr mi mf mg) xT)) (va_Qi (fun (r : Int32) (u : Int32 × Int32 × Int32 × Int32 × Int32 × Int32 × (Nat → Int32)) => (0 ≤ u.2.1.toInt) ∧ (u.2.1.toInt ≤ u.1.toInt) ∧ (u.1.toInt ≤ (mi 21).toInt) ∧ (0 ≤ u.2.2.1.toInt) ∧ (u.2.2.1.toInt ≤ 4) ∧ (u.2.2.1.toInt ≤ 4 * u.1.toInt - 4 * u.2.1.toInt) ∧ (pathsOK u.2.2.2.2.2.2) ∧ ((u.2.2.1.toInt = 2 → u.2.2.2.1.toInt = 30 → u.2.1.toInt + 3 ≤ u.1.toInt)) ∧ (r = 0 → PT (mf 43) u.2.2.2.2.2.2 (z_at).toNatClampNeg) ∧ ((r = (-1)) ∨ (r = 0 ∧ (mi 23).toInt + 1 ≤ u.2.1.toInt))) (fun u => QW D cI cJ (va_A (MW cI cJ M mr mi mf mg) sz) ((fun (u : Int32 × Int32 × Int32 × Int32 × Int32 × Int32 × (Nat → Int32)) => (MW cI cJ M mr (upd (upd (upd (upd (upd (upd mi 22 u.1) 23 u.2.1) 24 u.2.2.1) 25 u.2.2.2.1) 38 u.2.2.2.2.1) 39 u.2.2.2.2.2.1) (va_up mf 43 u.2.2.2.2.2.2) mg)) u)) (va_A (MW cI cJ M mr mi mf mg) sz)) 0 0 (va_A (MW cI cJ M mr mi mf mg) sz) := by
  refine mk_met (y := yX12_readPath) (bytes := cX12_readPath) (maxL := 2) (avs := [.ref M, .int z_at]) (WS := (MW cI cJ M mr mi mf mg)) (Qf := fun A => va_Qi (fun (r : Int32) (u : Int32 × Int32 × Int32 × Int32 × Int32 × Int32 × (Nat → Int32)) => (0 ≤ u.2.1.toInt) ∧ (u.2.1.toInt ≤ u.1.toInt) ∧ (u.1.toInt ≤ (mi 21).toInt) ∧ (0 ≤ u.2.2.1.toInt) ∧ (u.2.2.1.toInt ≤ 4) ∧ (u.2.2.1.toInt ≤ 4 * u.1.toInt - 4 * u.2.1.toInt) ∧ (pathsOK u.2.2.2.2.2.2) ∧ ((u.2.2.1.toInt = 2 → u.2.2.2.1.toInt = 30 → u.2.1.toInt + 3 ≤ u.1.toInt)) ∧ (r = 0 → PT (mf 43) u.2.2.2.2.2.2 (z_at).toNatClampNeg) ∧ ((r = (-1)) ∨ (r = 0 ∧ (mi 23).toInt + 1 ≤ u.2.1.toInt))) (fun u => QW D cI cJ A ((fun (u : Int32 × Int32 × Int32 × Int32 × Int32 × Int32 × (Nat → Int32)) => (MW cI cJ M mr (upd (upd (upd (upd (upd (upd mi 22 u.1) 23 u.2.1) 24 u.2.2.1) 25 u.2.2.2.1) 38 u.2.2.2.2.1) 39 u.2.2.2.2.2.1) (va_up mf 43 u.2.2.2.2.2.2) mg)) u)) A) (by decide) (Nat.le_of_ble_eq_true rfl) ?_
  intro p e s m below meth c A ls E hr hlk hnm hX hw1 hl2
  have hl3 : lv_has ls 2 [(0, .ref M), (1, .int z_at)] := hl2
  refine lv_aload_n (pc := 0) E.1 E.2.1 dX12_readPath_0 rfl (lv_at hl3 0 rfl) ?_
  refine x_get (pc := 1) (T := TX12) (N := 70) (ci := 12) (v := .ref (mr 43)) E hw1 inX12 0 43 q_1442 rfl rfl (by decide) rfl rfl dX12_readPath_1 ?_
  refine lv_iload_n (pc := 4) E.1 E.2.1 dX12_readPath_4 rfl (lv_at hl3 1 rfl) ?_
  refine lv_iconst (pc := 5) (v := 0) E.1 E.2.1 dX12_readPath_5 (by decide +kernel) ?_
  refine lv_iadd (pc := 6) E.1 E.2.1 dX12_readPath_6 ?_
  refine lv_topi (fun v_4 ev_4 => ?_)
  have hv_4 : v_4.toInt = z_at.toInt + 0 := by rw [ev_4]; exact addE rfl (by decide +kernel) (by omega)
  refine lv_aload_n (pc := 7) E.1 E.2.1 dX12_readPath_7 rfl (lv_at hl3 0 rfl) ?_
  refine lv_iconst (pc := 8) (v := 0) E.1 E.2.1 dX12_readPath_8 (by decide +kernel) ?_
  refine lv_aload_n (pc := 9) E.1 E.2.1 dX12_readPath_9 rfl (lv_at hl3 0 rfl) ?_
  refine x_get (pc := 10) (T := TX12) (N := 70) (ci := 12) (v := .int (mi 6)) E hw1 inX12 0 6 q_1405 rfl rfl (by decide) rfl rfl dX12_readPath_10 ?_
  refine lv_iconst (pc := 13) (v := 1) E.1 E.2.1 dX12_readPath_13 (by decide +kernel) ?_
  refine lv_isub (pc := 14) E.1 E.2.1 dX12_readPath_14 ?_
  refine lv_topi (fun v_5 ev_5 => ?_)
  have hv_5 : v_5.toInt = (mi 6).toInt - 1 := by rw [ev_5]; exact subE rfl (by decide +kernel) (by omega)
  refine cm_i (pc := 15) hw1 (rn_M (As := [.int 0, .int v_5]) (rest := [.int v_4, .ref (mr 43)]) E hw1 (s_readNumber l D cI cJ _ M mr mi mf mg 0 v_5 (by show 0 ≤ (mi 23).toInt; omega) (by show (mi 23).toInt ≤ (mi 22).toInt; omega) (by show (mi 22).toInt ≤ (mi 21).toInt; omega) (by show (mi 21).toInt ≤ 400; omega) (by show 0 ≤ (mi 24).toInt; omega) (by show (mi 24).toInt ≤ 4; omega) (by show (mi 24).toInt ≤ 4 * (mi 22).toInt - 4 * (mi 23).toInt; omega) (by show ((mf 26) 153).toInt = 32; omega) (show (∀ j : Nat, j < 154 → (mf 26) j = w0 j) from lf_words) (show ((mi 24).toInt = 2 → (mi 25).toInt = 30 → (mi 23).toInt + 3 ≤ (mi 22).toInt) from lf_again)) (gdV q_1706 q_1708 q_62 q_162 q_1709) hdV_X12_readNumber ⟨rfl, rfl⟩ ⟨(Nat.le_of_ble_eq_true rfl), (Nat.le_of_ble_eq_true rfl)⟩ ⟨(Nat.le_of_ble_eq_true rfl), (Nat.le_of_ble_eq_true rfl)⟩ 12 rfl rfl rfl rfl hl3.1 rfl (Nat.le_of_ble_eq_true rfl) dX12_readPath_15) (fun r_7 u_6 H1 locs hp hw8 => ?_)
  obtain ⟨nspot_9, nfrom_10, ntoken_11, nvalue_12, nreadFault_13, nreadPlace_14⟩ := u_6
  generalize H1 = H at hw8 ⊢
  have hw15 : WD D A s.heap (MW cI cJ M mr (upd (upd (upd (upd (upd (upd mi 22 nspot_9) 23 nfrom_10) 24 ntoken_11) 25 nvalue_12) 38 nreadFault_13) 39 nreadPlace_14) mf mg) H locs := hw8
  obtain ⟨hp_16, hp_17, hp_18, hp_19, hp_20, hp_21, hp_22, hp_23⟩ := hp
  have hp_16 : 0 ≤ nfrom_10.toInt := hp_16
  have hp_17 : nfrom_10.toInt ≤ nspot_9.toInt := hp_17
  have hp_18 : nspot_9.toInt ≤ (mi 21).toInt := hp_18
  have hp_19 : 0 ≤ ntoken_11.toInt := hp_19
  have hp_20 : ntoken_11.toInt ≤ 4 := hp_20
  have hp_21 : ntoken_11.toInt ≤ 4 * nspot_9.toInt - 4 * nfrom_10.toInt := hp_21
  have hp_22 : (ntoken_11.toInt = 2 → nvalue_12.toInt = 30 → nfrom_10.toInt + 3 ≤ nspot_9.toInt) := hp_22
  rcases hp_23 with rfl | ⟨ha_24, ha_25, ha_26⟩
  · skip
    refine x_iastG (pc := 18) (f := (mf 43)) (wf := fun g => (MW cI cJ M mr (upd (upd (upd (upd (upd (upd mi 22 nspot_9) 23 nfrom_10) 24 ntoken_11) 25 nvalue_12) 38 nreadFault_13) 39 nreadPlace_14) (va_up mf 43 g) mg)) E hw15 21 rfl (inbE (a := v_4.toInt) rfl (by omega)) (fun _ => rfl) dX12_readPath_18 (fun g_27 H locs eg_27 hw28 => ?_)
    have hpk_29 : pathsOK g_27 := pathsOK_hi a_paths eg_27 (by omega)
    refine lv_aload_n (pc := 19) E.1 E.2.1 dX12_readPath_19 rfl (lv_at hl3 0 rfl) ?_
    refine x_get (pc := 20) (T := TX12) (N := 70) (ci := 12) (v := .ref (mr 43)) E hw28 inX12 0 43 q_1442 rfl rfl (by decide) rfl rfl dX12_readPath_20 ?_
    refine lv_iload_n (pc := 23) E.1 E.2.1 dX12_readPath_23 rfl (lv_at hl3 1 rfl) ?_
    refine lv_iconst (pc := 24) (v := 0) E.1 E.2.1 dX12_readPath_24 (by decide +kernel) ?_
    refine lv_iadd (pc := 25) E.1 E.2.1 dX12_readPath_25 ?_
    refine lv_topi (fun v_30 ev_30 => ?_)
    have hv_30 : v_30.toInt = z_at.toInt + 0 := by rw [ev_30]; exact addE rfl (by decide +kernel) (by omega)
    refine x_iald (pc := 26) (f := g_27) E hw28 21 rfl (inbE (a := v_30.toInt) rfl (by omega)) dX12_readPath_26 ?_
    refine lv_topi (fun v_31 ev_31 => ?_)
    have hsv_31 : v_31.toInt = ((-1) : Int32).toInt := by rw [ev_31, eg_27, show v_30.toNatClampNeg = v_4.toNatClampNeg from (by have q_0 := idxI (x := v_30) (by omega); have q_1 := idxI (x := v_4) (by omega); omega), pk_us]
    rw [show ((-1) : Int32).toInt = -1 from by decide +kernel] at hsv_31
    refine lv_iconst (pc := 27) (v := (-1)) E.1 E.2.1 dX12_readPath_27 (by decide +kernel) ?_
    refine lv_icmp_eq (pc := 28) (tgt := 41) E.1 E.2.1 dX12_readPath_28 (by decide) (fun _ => ?_) (fun c_32 => absurd (meqE (a := v_31.toInt) (b := (-1)) rfl (by decide +kernel) (by omega)) c_32)
    refine lv_iconst (pc := 41) (v := (-1)) E.1 E.2.1 dX12_readPath_41 (by decide +kernel) ?_
    exact em_i (w1 := (fun (u : Int32 × Int32 × Int32 × Int32 × Int32 × Int32 × (Nat → Int32)) => (MW cI cJ M mr (upd (upd (upd (upd (upd (upd mi 22 u.1) 23 u.2.1) 24 u.2.2.1) 25 u.2.2.2.1) 38 u.2.2.2.2.1) 39 u.2.2.2.2.2.1) (va_up mf 43 u.2.2.2.2.2.2) mg))) E hr hlk (nspot_9, nfrom_10, ntoken_11, nvalue_12, nreadFault_13, nreadPlace_14, g_27) hw28 ⟨(by show 0 ≤ nfrom_10.toInt; have k_0 : ((-1) : Int32).toInt = -1 := (by decide +kernel); omega), (by show nfrom_10.toInt ≤ nspot_9.toInt; have k_0 : ((-1) : Int32).toInt = -1 := (by decide +kernel); omega), (by show nspot_9.toInt ≤ (mi 21).toInt; have k_0 : ((-1) : Int32).toInt = -1 := (by decide +kernel); omega), (by show 0 ≤ ntoken_11.toInt; have k_0 : ((-1) : Int32).toInt = -1 := (by decide +kernel); omega), (by show ntoken_11.toInt ≤ 4; have k_0 : ((-1) : Int32).toInt = -1 := (by decide +kernel); omega), (by show ntoken_11.toInt ≤ 4 * nspot_9.toInt - 4 * nfrom_10.toInt; have k_0 : ((-1) : Int32).toInt = -1 := (by decide +kernel); omega), hpk_29, hp_22, (fun h => absurd h (by decide +kernel)), (Or.inl rfl)⟩ (Nat.le_of_ble_eq_true rfl) (Nat.le_of_ble_eq_true rfl) dX12_readPath_42
  · skip
    have ha_24 : (0 : Int32).toInt ≤ r_7.toInt := ha_24
    rw [show (0 : Int32).toInt = 0 from by decide +kernel] at ha_24
    have ha_25 : r_7.toInt ≤ v_5.toInt := ha_25
    have ha_26 : (mi 23).toInt + 1 ≤ nfrom_10.toInt := ha_26
    refine x_iastG (pc := 18) (f := (mf 43)) (wf := fun g => (MW cI cJ M mr (upd (upd (upd (upd (upd (upd mi 22 nspot_9) 23 nfrom_10) 24 ntoken_11) 25 nvalue_12) 38 nreadFault_13) 39 nreadPlace_14) (va_up mf 43 g) mg)) E hw15 21 rfl (inbE (a := v_4.toInt) rfl (by omega)) (fun _ => rfl) dX12_readPath_18 (fun g_33 H locs eg_33 hw34 => ?_)
    have hpk_35 : pathsOK g_33 := pathsOK_hi a_paths eg_33 (by omega)
    refine lv_aload_n (pc := 19) E.1 E.2.1 dX12_readPath_19 rfl (lv_at hl3 0 rfl) ?_
    refine x_get (pc := 20) (T := TX12) (N := 70) (ci := 12) (v := .ref (mr 43)) E hw34 inX12 0 43 q_1442 rfl rfl (by decide) rfl rfl dX12_readPath_20 ?_
    refine lv_iload_n (pc := 23) E.1 E.2.1 dX12_readPath_23 rfl (lv_at hl3 1 rfl) ?_
    refine lv_iconst (pc := 24) (v := 0) E.1 E.2.1 dX12_readPath_24 (by decide +kernel) ?_
    refine lv_iadd (pc := 25) E.1 E.2.1 dX12_readPath_25 ?_
    refine lv_topi (fun v_36 ev_36 => ?_)
    have hv_36 : v_36.toInt = z_at.toInt + 0 := by rw [ev_36]; exact addE rfl (by decide +kernel) (by omega)
    refine x_iald (pc := 26) (f := g_33) E hw34 21 rfl (inbE (a := v_36.toInt) rfl (by omega)) dX12_readPath_26 ?_
    refine lv_topi (fun v_37 ev_37 => ?_)
    have hsv_37 : v_37.toInt = r_7.toInt := by rw [ev_37, eg_33, show v_36.toNatClampNeg = v_4.toNatClampNeg from (by have q_0 := idxI (x := v_36) (by omega); have q_1 := idxI (x := v_4) (by omega); omega), pk_us]
    refine lv_iconst (pc := 27) (v := (-1)) E.1 E.2.1 dX12_readPath_27 (by decide +kernel) ?_
    refine lv_icmp_eq (pc := 28) (tgt := 41) E.1 E.2.1 dX12_readPath_28 (by decide) (fun c_38 => absurd c_38 (mneE (a := v_37.toInt) (b := (-1)) rfl (by decide +kernel) (by omega))) (fun _ => ?_)
    refine lv_aload_n (pc := 31) E.1 E.2.1 dX12_readPath_31 rfl (lv_at hl3 0 rfl) ?_
    refine lv_bipush (pc := 32) (v := 17) E.1 E.2.1 dX12_readPath_32 (by decide +kernel) ?_
    refine cm_i (pc := 34) hw34 (rn_M (As := [.int 17]) (rest := []) E hw34 (s_readWord l D cI cJ _ M mr (upd (upd (upd (upd (upd (upd mi 22 nspot_9) 23 nfrom_10) 24 ntoken_11) 25 nvalue_12) 38 nreadFault_13) 39 nreadPlace_14) (va_up mf 43 g_33) mg 17 (by show 0 ≤ nfrom_10.toInt; omega) (by show nfrom_10.toInt ≤ nspot_9.toInt; omega) (by show nspot_9.toInt ≤ (mi 21).toInt; omega) (by show (mi 21).toInt ≤ 400; omega) (by show 0 ≤ ntoken_11.toInt; omega) (by show ntoken_11.toInt ≤ 4; omega) (by show ntoken_11.toInt ≤ 4 * nspot_9.toInt - 4 * nfrom_10.toInt; omega) (by show ((mf 26) 153).toInt = 32; omega) (show (∀ j : Nat, j < 154 → (mf 26) j = w0 j) from lf_words) (show (ntoken_11.toInt = 2 → nvalue_12.toInt = 30 → nfrom_10.toInt + 3 ≤ nspot_9.toInt) from hp_22)) (gdV q_1710 q_1712 q_63 q_162 q_1713) hdV_X12_readWord ⟨rfl, rfl⟩ ⟨(Nat.le_of_ble_eq_true rfl), (Nat.le_of_ble_eq_true rfl)⟩ ⟨(Nat.le_of_ble_eq_true rfl), (Nat.le_of_ble_eq_true rfl)⟩ 12 rfl rfl rfl rfl hl3.1 rfl (Nat.le_of_ble_eq_true rfl) dX12_readPath_34) (fun r_40 u_39 H1 locs hp hw41 => ?_)
    obtain ⟨nspot_42, nfrom_43, ntoken_44, nvalue_45, nreadFault_46, nreadPlace_47⟩ := u_39
    generalize H1 = H at hw41 ⊢
    have hw48 : WD D A s.heap (MW cI cJ M mr (upd (upd (upd (upd (upd (upd mi 22 nspot_42) 23 nfrom_43) 24 ntoken_44) 25 nvalue_45) 38 nreadFault_46) 39 nreadPlace_47) (va_up mf 43 g_33) mg) H locs := hw41
    obtain ⟨hp_49, hp_50, hp_51, hp_52, hp_53, hp_54, hp_55, hp_56⟩ := hp
    have hp_49 : 0 ≤ nfrom_43.toInt := hp_49
    have hp_50 : nfrom_43.toInt ≤ nspot_42.toInt := hp_50
    have hp_51 : nspot_42.toInt ≤ (mi 21).toInt := hp_51
    have hp_52 : 0 ≤ ntoken_44.toInt := hp_52
    have hp_53 : ntoken_44.toInt ≤ 4 := hp_53
    have hp_54 : ntoken_44.toInt ≤ 4 * nspot_42.toInt - 4 * nfrom_43.toInt := hp_54
    have hp_55 : (ntoken_44.toInt = 2 → nvalue_45.toInt = 30 → nfrom_43.toInt + 3 ≤ nspot_42.toInt) := hp_55
    rcases hp_56 with rfl | ⟨rfl, ha_57⟩
    · skip
      refine lv_iconst (pc := 37) (v := (-1)) E.1 E.2.1 dX12_readPath_37 (by decide +kernel) ?_
      refine lv_icmp_ne (pc := 38) (tgt := 43) E.1 E.2.1 dX12_readPath_38 (by decide) (fun c_58 => absurd (meqE (a := (-1)) (b := (-1)) (by decide +kernel) (by decide +kernel) (by omega)) c_58) (fun _ => ?_)
      refine lv_iconst (pc := 41) (v := (-1)) E.1 E.2.1 dX12_readPath_41 (by decide +kernel) ?_
      exact em_i (w1 := (fun (u : Int32 × Int32 × Int32 × Int32 × Int32 × Int32 × (Nat → Int32)) => (MW cI cJ M mr (upd (upd (upd (upd (upd (upd mi 22 u.1) 23 u.2.1) 24 u.2.2.1) 25 u.2.2.2.1) 38 u.2.2.2.2.1) 39 u.2.2.2.2.2.1) (va_up mf 43 u.2.2.2.2.2.2) mg))) E hr hlk (nspot_42, nfrom_43, ntoken_44, nvalue_45, nreadFault_46, nreadPlace_47, g_33) hw48 ⟨(by show 0 ≤ nfrom_43.toInt; have k_0 : ((-1) : Int32).toInt = -1 := (by decide +kernel); omega), (by show nfrom_43.toInt ≤ nspot_42.toInt; have k_0 : ((-1) : Int32).toInt = -1 := (by decide +kernel); omega), (by show nspot_42.toInt ≤ (mi 21).toInt; have k_0 : ((-1) : Int32).toInt = -1 := (by decide +kernel); omega), (by show 0 ≤ ntoken_44.toInt; have k_0 : ((-1) : Int32).toInt = -1 := (by decide +kernel); omega), (by show ntoken_44.toInt ≤ 4; have k_0 : ((-1) : Int32).toInt = -1 := (by decide +kernel); omega), (by show ntoken_44.toInt ≤ 4 * nspot_42.toInt - 4 * nfrom_43.toInt; have k_0 : ((-1) : Int32).toInt = -1 := (by decide +kernel); omega), hpk_35, hp_55, (fun h => absurd h (by decide +kernel)), (Or.inl rfl)⟩ (Nat.le_of_ble_eq_true rfl) (Nat.le_of_ble_eq_true rfl) dX12_readPath_42
    · skip
      have ha_57 : nfrom_10.toInt + 1 ≤ nfrom_43.toInt := ha_57
      refine lv_iconst (pc := 37) (v := (-1)) E.1 E.2.1 dX12_readPath_37 (by decide +kernel) ?_
      refine lv_icmp_ne (pc := 38) (tgt := 43) E.1 E.2.1 dX12_readPath_38 (by decide) (fun _ => ?_) (fun c_59 => absurd c_59 (mneE (a := 0) (b := (-1)) (by decide +kernel) (by decide +kernel) (by omega)))
      refine lv_aload_n (pc := 43) E.1 E.2.1 dX12_readPath_43 rfl (lv_at hl3 0 rfl) ?_
      refine x_get (pc := 44) (T := TX12) (N := 70) (ci := 12) (v := .ref (mr 43)) E hw48 inX12 0 43 q_1442 rfl rfl (by decide) rfl rfl dX12_readPath_44 ?_
      refine lv_iload_n (pc := 47) E.1 E.2.1 dX12_readPath_47 rfl (lv_at hl3 1 rfl) ?_
      refine lv_iconst (pc := 48) (v := 1) E.1 E.2.1 dX12_readPath_48 (by decide +kernel) ?_
      refine lv_iadd (pc := 49) E.1 E.2.1 dX12_readPath_49 ?_
      refine lv_topi (fun v_60 ev_60 => ?_)
      have hv_60 : v_60.toInt = z_at.toInt + 1 := by rw [ev_60]; exact addE rfl (by decide +kernel) (by omega)
      refine lv_aload_n (pc := 50) E.1 E.2.1 dX12_readPath_50 rfl (lv_at hl3 0 rfl) ?_
      refine lv_iconst (pc := 51) (v := 0) E.1 E.2.1 dX12_readPath_51 (by decide +kernel) ?_
      refine lv_aload_n (pc := 52) E.1 E.2.1 dX12_readPath_52 rfl (lv_at hl3 0 rfl) ?_
      refine x_get (pc := 53) (T := TX12) (N := 70) (ci := 12) (v := .int (mi 6)) E hw48 inX12 0 6 q_1405 rfl rfl (by decide) rfl rfl dX12_readPath_53 ?_
      refine lv_iconst (pc := 56) (v := 1) E.1 E.2.1 dX12_readPath_56 (by decide +kernel) ?_
      refine lv_isub (pc := 57) E.1 E.2.1 dX12_readPath_57 ?_
      refine lv_topi (fun v_61 ev_61 => ?_)
      have hv_61 : v_61.toInt = (mi 6).toInt - 1 := by rw [ev_61]; exact subE rfl (by decide +kernel) (by omega)
      refine cm_i (pc := 58) hw48 (rn_M (As := [.int 0, .int v_61]) (rest := [.int v_60, .ref (mr 43)]) E hw48 (s_readNumber l D cI cJ _ M mr (upd (upd (upd (upd (upd (upd mi 22 nspot_42) 23 nfrom_43) 24 ntoken_44) 25 nvalue_45) 38 nreadFault_46) 39 nreadPlace_47) (va_up mf 43 g_33) mg 0 v_61 (by show 0 ≤ nfrom_43.toInt; omega) (by show nfrom_43.toInt ≤ nspot_42.toInt; omega) (by show nspot_42.toInt ≤ (mi 21).toInt; omega) (by show (mi 21).toInt ≤ 400; omega) (by show 0 ≤ ntoken_44.toInt; omega) (by show ntoken_44.toInt ≤ 4; omega) (by show ntoken_44.toInt ≤ 4 * nspot_42.toInt - 4 * nfrom_43.toInt; omega) (by show ((mf 26) 153).toInt = 32; omega) (show (∀ j : Nat, j < 154 → (mf 26) j = w0 j) from lf_words) (show (ntoken_44.toInt = 2 → nvalue_45.toInt = 30 → nfrom_43.toInt + 3 ≤ nspot_42.toInt) from hp_55)) (gdV q_1706 q_1708 q_62 q_162 q_1709) hdV_X12_readNumber ⟨rfl, rfl⟩ ⟨(Nat.le_of_ble_eq_true rfl), (Nat.le_of_ble_eq_true rfl)⟩ ⟨(Nat.le_of_ble_eq_true rfl), (Nat.le_of_ble_eq_true rfl)⟩ 12 rfl rfl rfl rfl hl3.1 rfl (Nat.le_of_ble_eq_true rfl) dX12_readPath_58) (fun r_63 u_62 H1 locs hp hw64 => ?_)
      obtain ⟨nspot_65, nfrom_66, ntoken_67, nvalue_68, nreadFault_69, nreadPlace_70⟩ := u_62
      generalize H1 = H at hw64 ⊢
      have hw71 : WD D A s.heap (MW cI cJ M mr (upd (upd (upd (upd (upd (upd mi 22 nspot_65) 23 nfrom_66) 24 ntoken_67) 25 nvalue_68) 38 nreadFault_69) 39 nreadPlace_70) (va_up mf 43 g_33) mg) H locs := hw64
      obtain ⟨hp_72, hp_73, hp_74, hp_75, hp_76, hp_77, hp_78, hp_79⟩ := hp
      have hp_72 : 0 ≤ nfrom_66.toInt := hp_72
      have hp_73 : nfrom_66.toInt ≤ nspot_65.toInt := hp_73
      have hp_74 : nspot_65.toInt ≤ (mi 21).toInt := hp_74
      have hp_75 : 0 ≤ ntoken_67.toInt := hp_75
      have hp_76 : ntoken_67.toInt ≤ 4 := hp_76
      have hp_77 : ntoken_67.toInt ≤ 4 * nspot_65.toInt - 4 * nfrom_66.toInt := hp_77
      have hp_78 : (ntoken_67.toInt = 2 → nvalue_68.toInt = 30 → nfrom_66.toInt + 3 ≤ nspot_65.toInt) := hp_78
      rcases hp_79 with rfl | ⟨ha_80, ha_81, ha_82⟩
      · skip
        refine x_iastG (pc := 61) (f := g_33) (wf := fun g => (MW cI cJ M mr (upd (upd (upd (upd (upd (upd mi 22 nspot_65) 23 nfrom_66) 24 ntoken_67) 25 nvalue_68) 38 nreadFault_69) 39 nreadPlace_70) (va_up mf 43 g) mg)) E hw71 21 rfl (inbE (a := v_60.toInt) rfl (by omega)) (fun _ => rfl) dX12_readPath_61 (fun g_83 H locs eg_83 hw84 => ?_)
        have hpk_85 : pathsOK g_83 := pathsOK_hi hpk_35 eg_83 (by omega)
        refine lv_aload_n (pc := 62) E.1 E.2.1 dX12_readPath_62 rfl (lv_at hl3 0 rfl) ?_
        refine x_get (pc := 63) (T := TX12) (N := 70) (ci := 12) (v := .ref (mr 43)) E hw84 inX12 0 43 q_1442 rfl rfl (by decide) rfl rfl dX12_readPath_63 ?_
        refine lv_iload_n (pc := 66) E.1 E.2.1 dX12_readPath_66 rfl (lv_at hl3 1 rfl) ?_
        refine lv_iconst (pc := 67) (v := 1) E.1 E.2.1 dX12_readPath_67 (by decide +kernel) ?_
        refine lv_iadd (pc := 68) E.1 E.2.1 dX12_readPath_68 ?_
        refine lv_topi (fun v_86 ev_86 => ?_)
        have hv_86 : v_86.toInt = z_at.toInt + 1 := by rw [ev_86]; exact addE rfl (by decide +kernel) (by omega)
        refine x_iald (pc := 69) (f := g_83) E hw84 21 rfl (inbE (a := v_86.toInt) rfl (by omega)) dX12_readPath_69 ?_
        refine lv_topi (fun v_87 ev_87 => ?_)
        have hsv_87 : v_87.toInt = ((-1) : Int32).toInt := by rw [ev_87, eg_83, show v_86.toNatClampNeg = v_60.toNatClampNeg from (by have q_0 := idxI (x := v_86) (by omega); have q_1 := idxI (x := v_60) (by omega); omega), pk_us]
        rw [show ((-1) : Int32).toInt = -1 from by decide +kernel] at hsv_87
        refine lv_iconst (pc := 70) (v := (-1)) E.1 E.2.1 dX12_readPath_70 (by decide +kernel) ?_
        refine lv_icmp_eq (pc := 71) (tgt := 84) E.1 E.2.1 dX12_readPath_71 (by decide) (fun _ => ?_) (fun c_88 => absurd (meqE (a := v_87.toInt) (b := (-1)) rfl (by decide +kernel) (by omega)) c_88)
        refine lv_iconst (pc := 84) (v := (-1)) E.1 E.2.1 dX12_readPath_84 (by decide +kernel) ?_
        exact em_i (w1 := (fun (u : Int32 × Int32 × Int32 × Int32 × Int32 × Int32 × (Nat → Int32)) => (MW cI cJ M mr (upd (upd (upd (upd (upd (upd mi 22 u.1) 23 u.2.1) 24 u.2.2.1) 25 u.2.2.2.1) 38 u.2.2.2.2.1) 39 u.2.2.2.2.2.1) (va_up mf 43 u.2.2.2.2.2.2) mg))) E hr hlk (nspot_65, nfrom_66, ntoken_67, nvalue_68, nreadFault_69, nreadPlace_70, g_83) hw84 ⟨(by show 0 ≤ nfrom_66.toInt; have k_0 : ((-1) : Int32).toInt = -1 := (by decide +kernel); omega), (by show nfrom_66.toInt ≤ nspot_65.toInt; have k_0 : ((-1) : Int32).toInt = -1 := (by decide +kernel); omega), (by show nspot_65.toInt ≤ (mi 21).toInt; have k_0 : ((-1) : Int32).toInt = -1 := (by decide +kernel); omega), (by show 0 ≤ ntoken_67.toInt; have k_0 : ((-1) : Int32).toInt = -1 := (by decide +kernel); omega), (by show ntoken_67.toInt ≤ 4; have k_0 : ((-1) : Int32).toInt = -1 := (by decide +kernel); omega), (by show ntoken_67.toInt ≤ 4 * nspot_65.toInt - 4 * nfrom_66.toInt; have k_0 : ((-1) : Int32).toInt = -1 := (by decide +kernel); omega), hpk_85, hp_78, (fun h => absurd h (by decide +kernel)), (Or.inl rfl)⟩ (Nat.le_of_ble_eq_true rfl) (Nat.le_of_ble_eq_true rfl) dX12_readPath_85
      · skip
        have ha_80 : (0 : Int32).toInt ≤ r_63.toInt := ha_80
        rw [show (0 : Int32).toInt = 0 from by decide +kernel] at ha_80
        have ha_81 : r_63.toInt ≤ v_61.toInt := ha_81
        have ha_82 : nfrom_43.toInt + 1 ≤ nfrom_66.toInt := ha_82
        refine x_iastG (pc := 61) (f := g_33) (wf := fun g => (MW cI cJ M mr (upd (upd (upd (upd (upd (upd mi 22 nspot_65) 23 nfrom_66) 24 ntoken_67) 25 nvalue_68) 38 nreadFault_69) 39 nreadPlace_70) (va_up mf 43 g) mg)) E hw71 21 rfl (inbE (a := v_60.toInt) rfl (by omega)) (fun _ => rfl) dX12_readPath_61 (fun g_89 H locs eg_89 hw90 => ?_)
        have hpk_91 : pathsOK g_89 := pathsOK_hi hpk_35 eg_89 (by omega)
        refine lv_aload_n (pc := 62) E.1 E.2.1 dX12_readPath_62 rfl (lv_at hl3 0 rfl) ?_
        refine x_get (pc := 63) (T := TX12) (N := 70) (ci := 12) (v := .ref (mr 43)) E hw90 inX12 0 43 q_1442 rfl rfl (by decide) rfl rfl dX12_readPath_63 ?_
        refine lv_iload_n (pc := 66) E.1 E.2.1 dX12_readPath_66 rfl (lv_at hl3 1 rfl) ?_
        refine lv_iconst (pc := 67) (v := 1) E.1 E.2.1 dX12_readPath_67 (by decide +kernel) ?_
        refine lv_iadd (pc := 68) E.1 E.2.1 dX12_readPath_68 ?_
        refine lv_topi (fun v_92 ev_92 => ?_)
        have hv_92 : v_92.toInt = z_at.toInt + 1 := by rw [ev_92]; exact addE rfl (by decide +kernel) (by omega)
        refine x_iald (pc := 69) (f := g_89) E hw90 21 rfl (inbE (a := v_92.toInt) rfl (by omega)) dX12_readPath_69 ?_
        refine lv_topi (fun v_93 ev_93 => ?_)
        have hsv_93 : v_93.toInt = r_63.toInt := by rw [ev_93, eg_89, show v_92.toNatClampNeg = v_60.toNatClampNeg from (by have q_0 := idxI (x := v_92) (by omega); have q_1 := idxI (x := v_60) (by omega); omega), pk_us]
        refine lv_iconst (pc := 70) (v := (-1)) E.1 E.2.1 dX12_readPath_70 (by decide +kernel) ?_
        refine lv_icmp_eq (pc := 71) (tgt := 84) E.1 E.2.1 dX12_readPath_71 (by decide) (fun c_94 => absurd c_94 (mneE (a := v_93.toInt) (b := (-1)) rfl (by decide +kernel) (by omega))) (fun _ => ?_)
        refine lv_aload_n (pc := 74) E.1 E.2.1 dX12_readPath_74 rfl (lv_at hl3 0 rfl) ?_
        refine lv_bipush (pc := 75) (v := 18) E.1 E.2.1 dX12_readPath_75 (by decide +kernel) ?_
        refine cm_i (pc := 77) hw90 (rn_M (As := [.int 18]) (rest := []) E hw90 (s_readWord l D cI cJ _ M mr (upd (upd (upd (upd (upd (upd mi 22 nspot_65) 23 nfrom_66) 24 ntoken_67) 25 nvalue_68) 38 nreadFault_69) 39 nreadPlace_70) (va_up mf 43 g_89) mg 18 (by show 0 ≤ nfrom_66.toInt; omega) (by show nfrom_66.toInt ≤ nspot_65.toInt; omega) (by show nspot_65.toInt ≤ (mi 21).toInt; omega) (by show (mi 21).toInt ≤ 400; omega) (by show 0 ≤ ntoken_67.toInt; omega) (by show ntoken_67.toInt ≤ 4; omega) (by show ntoken_67.toInt ≤ 4 * nspot_65.toInt - 4 * nfrom_66.toInt; omega) (by show ((mf 26) 153).toInt = 32; omega) (show (∀ j : Nat, j < 154 → (mf 26) j = w0 j) from lf_words) (show (ntoken_67.toInt = 2 → nvalue_68.toInt = 30 → nfrom_66.toInt + 3 ≤ nspot_65.toInt) from hp_78)) (gdV q_1710 q_1712 q_63 q_162 q_1713) hdV_X12_readWord ⟨rfl, rfl⟩ ⟨(Nat.le_of_ble_eq_true rfl), (Nat.le_of_ble_eq_true rfl)⟩ ⟨(Nat.le_of_ble_eq_true rfl), (Nat.le_of_ble_eq_true rfl)⟩ 12 rfl rfl rfl rfl hl3.1 rfl (Nat.le_of_ble_eq_true rfl) dX12_readPath_77) (fun r_96 u_95 H1 locs hp hw97 => ?_)
        obtain ⟨nspot_98, nfrom_99, ntoken_100, nvalue_101, nreadFault_102, nreadPlace_103⟩ := u_95
        generalize H1 = H at hw97 ⊢
        have hw104 : WD D A s.heap (MW cI cJ M mr (upd (upd (upd (upd (upd (upd mi 22 nspot_98) 23 nfrom_99) 24 ntoken_100) 25 nvalue_101) 38 nreadFault_102) 39 nreadPlace_103) (va_up mf 43 g_89) mg) H locs := hw97
        obtain ⟨hp_105, hp_106, hp_107, hp_108, hp_109, hp_110, hp_111, hp_112⟩ := hp
        have hp_105 : 0 ≤ nfrom_99.toInt := hp_105
        have hp_106 : nfrom_99.toInt ≤ nspot_98.toInt := hp_106
        have hp_107 : nspot_98.toInt ≤ (mi 21).toInt := hp_107
        have hp_108 : 0 ≤ ntoken_100.toInt := hp_108
        have hp_109 : ntoken_100.toInt ≤ 4 := hp_109
        have hp_110 : ntoken_100.toInt ≤ 4 * nspot_98.toInt - 4 * nfrom_99.toInt := hp_110
        have hp_111 : (ntoken_100.toInt = 2 → nvalue_101.toInt = 30 → nfrom_99.toInt + 3 ≤ nspot_98.toInt) := hp_111
        rcases hp_112 with rfl | ⟨rfl, ha_113⟩
        · skip
          refine lv_iconst (pc := 80) (v := (-1)) E.1 E.2.1 dX12_readPath_80 (by decide +kernel) ?_
          refine lv_icmp_ne (pc := 81) (tgt := 86) E.1 E.2.1 dX12_readPath_81 (by decide) (fun c_114 => absurd (meqE (a := (-1)) (b := (-1)) (by decide +kernel) (by decide +kernel) (by omega)) c_114) (fun _ => ?_)
          refine lv_iconst (pc := 84) (v := (-1)) E.1 E.2.1 dX12_readPath_84 (by decide +kernel) ?_
          exact em_i (w1 := (fun (u : Int32 × Int32 × Int32 × Int32 × Int32 × Int32 × (Nat → Int32)) => (MW cI cJ M mr (upd (upd (upd (upd (upd (upd mi 22 u.1) 23 u.2.1) 24 u.2.2.1) 25 u.2.2.2.1) 38 u.2.2.2.2.1) 39 u.2.2.2.2.2.1) (va_up mf 43 u.2.2.2.2.2.2) mg))) E hr hlk (nspot_98, nfrom_99, ntoken_100, nvalue_101, nreadFault_102, nreadPlace_103, g_89) hw104 ⟨(by show 0 ≤ nfrom_99.toInt; have k_0 : ((-1) : Int32).toInt = -1 := (by decide +kernel); omega), (by show nfrom_99.toInt ≤ nspot_98.toInt; have k_0 : ((-1) : Int32).toInt = -1 := (by decide +kernel); omega), (by show nspot_98.toInt ≤ (mi 21).toInt; have k_0 : ((-1) : Int32).toInt = -1 := (by decide +kernel); omega), (by show 0 ≤ ntoken_100.toInt; have k_0 : ((-1) : Int32).toInt = -1 := (by decide +kernel); omega), (by show ntoken_100.toInt ≤ 4; have k_0 : ((-1) : Int32).toInt = -1 := (by decide +kernel); omega), (by show ntoken_100.toInt ≤ 4 * nspot_98.toInt - 4 * nfrom_99.toInt; have k_0 : ((-1) : Int32).toInt = -1 := (by decide +kernel); omega), hpk_91, hp_111, (fun h => absurd h (by decide +kernel)), (Or.inl rfl)⟩ (Nat.le_of_ble_eq_true rfl) (Nat.le_of_ble_eq_true rfl) dX12_readPath_85
        · skip
          have ha_113 : nfrom_66.toInt + 1 ≤ nfrom_99.toInt := ha_113
          refine lv_iconst (pc := 80) (v := (-1)) E.1 E.2.1 dX12_readPath_80 (by decide +kernel) ?_
          refine lv_icmp_ne (pc := 81) (tgt := 86) E.1 E.2.1 dX12_readPath_81 (by decide) (fun _ => ?_) (fun c_115 => absurd c_115 (mneE (a := 0) (b := (-1)) (by decide +kernel) (by decide +kernel) (by omega)))
          refine lv_aload_n (pc := 86) E.1 E.2.1 dX12_readPath_86 rfl (lv_at hl3 0 rfl) ?_
          refine x_get (pc := 87) (T := TX12) (N := 70) (ci := 12) (v := .ref (mr 43)) E hw104 inX12 0 43 q_1442 rfl rfl (by decide) rfl rfl dX12_readPath_87 ?_
          refine lv_iload_n (pc := 90) E.1 E.2.1 dX12_readPath_90 rfl (lv_at hl3 1 rfl) ?_
          refine lv_iconst (pc := 91) (v := 2) E.1 E.2.1 dX12_readPath_91 (by decide +kernel) ?_
          refine lv_iadd (pc := 92) E.1 E.2.1 dX12_readPath_92 ?_
          refine lv_topi (fun v_116 ev_116 => ?_)
          have hv_116 : v_116.toInt = z_at.toInt + 2 := by rw [ev_116]; exact addE rfl (by decide +kernel) (by omega)
          refine lv_aload_n (pc := 93) E.1 E.2.1 dX12_readPath_93 rfl (lv_at hl3 0 rfl) ?_
          refine lv_iconst (pc := 94) (v := 1) E.1 E.2.1 dX12_readPath_94 (by decide +kernel) ?_
          refine lv_bipush (pc := 95) (v := 99) E.1 E.2.1 dX12_readPath_95 (by decide +kernel) ?_
          refine cm_i (pc := 97) hw104 (rn_M (As := [.int 1, .int 99]) (rest := [.int v_116, .ref (mr 43)]) E hw104 (s_readNumber l D cI cJ _ M mr (upd (upd (upd (upd (upd (upd mi 22 nspot_98) 23 nfrom_99) 24 ntoken_100) 25 nvalue_101) 38 nreadFault_102) 39 nreadPlace_103) (va_up mf 43 g_89) mg 1 99 (by show 0 ≤ nfrom_99.toInt; omega) (by show nfrom_99.toInt ≤ nspot_98.toInt; omega) (by show nspot_98.toInt ≤ (mi 21).toInt; omega) (by show (mi 21).toInt ≤ 400; omega) (by show 0 ≤ ntoken_100.toInt; omega) (by show ntoken_100.toInt ≤ 4; omega) (by show ntoken_100.toInt ≤ 4 * nspot_98.toInt - 4 * nfrom_99.toInt; omega) (by show ((mf 26) 153).toInt = 32; omega) (show (∀ j : Nat, j < 154 → (mf 26) j = w0 j) from lf_words) (show (ntoken_100.toInt = 2 → nvalue_101.toInt = 30 → nfrom_99.toInt + 3 ≤ nspot_98.toInt) from hp_111)) (gdV q_1706 q_1708 q_62 q_162 q_1709) hdV_X12_readNumber ⟨rfl, rfl⟩ ⟨(Nat.le_of_ble_eq_true rfl), (Nat.le_of_ble_eq_true rfl)⟩ ⟨(Nat.le_of_ble_eq_true rfl), (Nat.le_of_ble_eq_true rfl)⟩ 12 rfl rfl rfl rfl hl3.1 rfl (Nat.le_of_ble_eq_true rfl) dX12_readPath_97) (fun r_118 u_117 H1 locs hp hw119 => ?_)
          obtain ⟨nspot_120, nfrom_121, ntoken_122, nvalue_123, nreadFault_124, nreadPlace_125⟩ := u_117
          generalize H1 = H at hw119 ⊢
          have hw126 : WD D A s.heap (MW cI cJ M mr (upd (upd (upd (upd (upd (upd mi 22 nspot_120) 23 nfrom_121) 24 ntoken_122) 25 nvalue_123) 38 nreadFault_124) 39 nreadPlace_125) (va_up mf 43 g_89) mg) H locs := hw119
          obtain ⟨hp_127, hp_128, hp_129, hp_130, hp_131, hp_132, hp_133, hp_134⟩ := hp
          have hp_127 : 0 ≤ nfrom_121.toInt := hp_127
          have hp_128 : nfrom_121.toInt ≤ nspot_120.toInt := hp_128
          have hp_129 : nspot_120.toInt ≤ (mi 21).toInt := hp_129
          have hp_130 : 0 ≤ ntoken_122.toInt := hp_130
          have hp_131 : ntoken_122.toInt ≤ 4 := hp_131
          have hp_132 : ntoken_122.toInt ≤ 4 * nspot_120.toInt - 4 * nfrom_121.toInt := hp_132
          have hp_133 : (ntoken_122.toInt = 2 → nvalue_123.toInt = 30 → nfrom_121.toInt + 3 ≤ nspot_120.toInt) := hp_133
          rcases hp_134 with rfl | ⟨ha_135, ha_136, ha_137⟩
          · skip
            refine x_iastG (pc := 100) (f := g_89) (wf := fun g => (MW cI cJ M mr (upd (upd (upd (upd (upd (upd mi 22 nspot_120) 23 nfrom_121) 24 ntoken_122) 25 nvalue_123) 38 nreadFault_124) 39 nreadPlace_125) (va_up mf 43 g) mg)) E hw126 21 rfl (inbE (a := v_116.toInt) rfl (by omega)) (fun _ => rfl) dX12_readPath_100 (fun g_138 H locs eg_138 hw139 => ?_)
            have hpk_140 : pathsOK g_138 := pathsOK_hi hpk_91 eg_138 (by omega)
            refine lv_aload_n (pc := 101) E.1 E.2.1 dX12_readPath_101 rfl (lv_at hl3 0 rfl) ?_
            refine x_get (pc := 102) (T := TX12) (N := 70) (ci := 12) (v := .ref (mr 43)) E hw139 inX12 0 43 q_1442 rfl rfl (by decide) rfl rfl dX12_readPath_102 ?_
            refine lv_iload_n (pc := 105) E.1 E.2.1 dX12_readPath_105 rfl (lv_at hl3 1 rfl) ?_
            refine lv_iconst (pc := 106) (v := 2) E.1 E.2.1 dX12_readPath_106 (by decide +kernel) ?_
            refine lv_iadd (pc := 107) E.1 E.2.1 dX12_readPath_107 ?_
            refine lv_topi (fun v_141 ev_141 => ?_)
            have hv_141 : v_141.toInt = z_at.toInt + 2 := by rw [ev_141]; exact addE rfl (by decide +kernel) (by omega)
            refine x_iald (pc := 108) (f := g_138) E hw139 21 rfl (inbE (a := v_141.toInt) rfl (by omega)) dX12_readPath_108 ?_
            refine lv_topi (fun v_142 ev_142 => ?_)
            have hsv_142 : v_142.toInt = ((-1) : Int32).toInt := by rw [ev_142, eg_138, show v_141.toNatClampNeg = v_116.toNatClampNeg from (by have q_0 := idxI (x := v_141) (by omega); have q_1 := idxI (x := v_116) (by omega); omega), pk_us]
            rw [show ((-1) : Int32).toInt = -1 from by decide +kernel] at hsv_142
            refine lv_iconst (pc := 109) (v := (-1)) E.1 E.2.1 dX12_readPath_109 (by decide +kernel) ?_
            refine lv_icmp_ne (pc := 110) (tgt := 115) E.1 E.2.1 dX12_readPath_110 (by decide) (fun c_143 => absurd (meqE (a := v_142.toInt) (b := (-1)) rfl (by decide +kernel) (by omega)) c_143) (fun _ => ?_)
            refine lv_iconst (pc := 113) (v := (-1)) E.1 E.2.1 dX12_readPath_113 (by decide +kernel) ?_
            exact em_i (w1 := (fun (u : Int32 × Int32 × Int32 × Int32 × Int32 × Int32 × (Nat → Int32)) => (MW cI cJ M mr (upd (upd (upd (upd (upd (upd mi 22 u.1) 23 u.2.1) 24 u.2.2.1) 25 u.2.2.2.1) 38 u.2.2.2.2.1) 39 u.2.2.2.2.2.1) (va_up mf 43 u.2.2.2.2.2.2) mg))) E hr hlk (nspot_120, nfrom_121, ntoken_122, nvalue_123, nreadFault_124, nreadPlace_125, g_138) hw139 ⟨(by show 0 ≤ nfrom_121.toInt; have k_0 : ((-1) : Int32).toInt = -1 := (by decide +kernel); omega), (by show nfrom_121.toInt ≤ nspot_120.toInt; have k_0 : ((-1) : Int32).toInt = -1 := (by decide +kernel); omega), (by show nspot_120.toInt ≤ (mi 21).toInt; have k_0 : ((-1) : Int32).toInt = -1 := (by decide +kernel); omega), (by show 0 ≤ ntoken_122.toInt; have k_0 : ((-1) : Int32).toInt = -1 := (by decide +kernel); omega), (by show ntoken_122.toInt ≤ 4; have k_0 : ((-1) : Int32).toInt = -1 := (by decide +kernel); omega), (by show ntoken_122.toInt ≤ 4 * nspot_120.toInt - 4 * nfrom_121.toInt; have k_0 : ((-1) : Int32).toInt = -1 := (by decide +kernel); omega), hpk_140, hp_133, (fun h => absurd h (by decide +kernel)), (Or.inl rfl)⟩ (Nat.le_of_ble_eq_true rfl) (Nat.le_of_ble_eq_true rfl) dX12_readPath_114
          · skip
            have ha_135 : (1 : Int32).toInt ≤ r_118.toInt := ha_135
            rw [show (1 : Int32).toInt = 1 from by decide +kernel] at ha_135
            have ha_136 : r_118.toInt ≤ (99 : Int32).toInt := ha_136
            rw [show (99 : Int32).toInt = 99 from by decide +kernel] at ha_136
            have ha_137 : nfrom_99.toInt + 1 ≤ nfrom_121.toInt := ha_137
            refine x_iastG (pc := 100) (f := g_89) (wf := fun g => (MW cI cJ M mr (upd (upd (upd (upd (upd (upd mi 22 nspot_120) 23 nfrom_121) 24 ntoken_122) 25 nvalue_123) 38 nreadFault_124) 39 nreadPlace_125) (va_up mf 43 g) mg)) E hw126 21 rfl (inbE (a := v_116.toInt) rfl (by omega)) (fun _ => rfl) dX12_readPath_100 (fun g_144 H locs eg_144 hw145 => ?_)
            have hpk_146 : pathsOK g_144 := pathsOK_hi hpk_91 eg_144 (by omega)
            refine lv_aload_n (pc := 101) E.1 E.2.1 dX12_readPath_101 rfl (lv_at hl3 0 rfl) ?_
            refine x_get (pc := 102) (T := TX12) (N := 70) (ci := 12) (v := .ref (mr 43)) E hw145 inX12 0 43 q_1442 rfl rfl (by decide) rfl rfl dX12_readPath_102 ?_
            refine lv_iload_n (pc := 105) E.1 E.2.1 dX12_readPath_105 rfl (lv_at hl3 1 rfl) ?_
            refine lv_iconst (pc := 106) (v := 2) E.1 E.2.1 dX12_readPath_106 (by decide +kernel) ?_
            refine lv_iadd (pc := 107) E.1 E.2.1 dX12_readPath_107 ?_
            refine lv_topi (fun v_147 ev_147 => ?_)
            have hv_147 : v_147.toInt = z_at.toInt + 2 := by rw [ev_147]; exact addE rfl (by decide +kernel) (by omega)
            refine x_iald (pc := 108) (f := g_144) E hw145 21 rfl (inbE (a := v_147.toInt) rfl (by omega)) dX12_readPath_108 ?_
            refine lv_topi (fun v_148 ev_148 => ?_)
            have hsv_148 : v_148.toInt = r_118.toInt := by rw [ev_148, eg_144, show v_147.toNatClampNeg = v_116.toNatClampNeg from (by have q_0 := idxI (x := v_147) (by omega); have q_1 := idxI (x := v_116) (by omega); omega), pk_us]
            refine lv_iconst (pc := 109) (v := (-1)) E.1 E.2.1 dX12_readPath_109 (by decide +kernel) ?_
            refine lv_icmp_ne (pc := 110) (tgt := 115) E.1 E.2.1 dX12_readPath_110 (by decide) (fun _ => ?_) (fun c_149 => absurd c_149 (mneE (a := v_148.toInt) (b := (-1)) rfl (by decide +kernel) (by omega)))
            refine lv_aload_n (pc := 115) E.1 E.2.1 dX12_readPath_115 rfl (lv_at hl3 0 rfl) ?_
            refine x_get (pc := 116) (T := TX12) (N := 70) (ci := 12) (v := .ref (mr 43)) E hw145 inX12 0 43 q_1442 rfl rfl (by decide) rfl rfl dX12_readPath_116 ?_
            refine lv_iload_n (pc := 119) E.1 E.2.1 dX12_readPath_119 rfl (lv_at hl3 1 rfl) ?_
            refine lv_iconst (pc := 120) (v := 3) E.1 E.2.1 dX12_readPath_120 (by decide +kernel) ?_
            refine lv_iadd (pc := 121) E.1 E.2.1 dX12_readPath_121 ?_
            refine lv_topi (fun v_150 ev_150 => ?_)
            have hv_150 : v_150.toInt = z_at.toInt + 3 := by rw [ev_150]; exact addE rfl (by decide +kernel) (by omega)
            refine lv_bipush (pc := 122) (v := 9) E.1 E.2.1 dX12_readPath_122 (by decide +kernel) ?_
            refine x_iastG (pc := 124) (f := g_144) (wf := fun g => (MW cI cJ M mr (upd (upd (upd (upd (upd (upd mi 22 nspot_120) 23 nfrom_121) 24 ntoken_122) 25 nvalue_123) 38 nreadFault_124) 39 nreadPlace_125) (va_up mf 43 g) mg)) E hw145 21 rfl (inbE (a := v_150.toInt) rfl (by omega)) (fun _ => rfl) dX12_readPath_124 (fun g_151 H locs eg_151 hw152 => ?_)
            have hpk_153 : pathsOK g_151 := pathsOK_hi hpk_146 eg_151 (by omega)
            refine lv_aload_n (pc := 125) E.1 E.2.1 dX12_readPath_125 rfl (lv_at hl3 0 rfl) ?_
            refine lv_bipush (pc := 126) (v := 19) E.1 E.2.1 dX12_readPath_126 (by decide +kernel) ?_
            refine cm_i (pc := 128) hw152 (rn_M (As := [.int 19]) (rest := []) E hw152 (s_isWord3 l D cI cJ _ M mr (upd (upd (upd (upd (upd (upd mi 22 nspot_120) 23 nfrom_121) 24 ntoken_122) 25 nvalue_123) 38 nreadFault_124) 39 nreadPlace_125) (va_up mf 43 g_151) mg 19) (gdV q_1694 q_1696 q_59 q_162 q_1697) hdV_X12_isWord ⟨rfl, rfl⟩ ⟨(Nat.le_of_ble_eq_true rfl), (Nat.le_of_ble_eq_true rfl)⟩ ⟨(Nat.le_of_ble_eq_true rfl), (Nat.le_of_ble_eq_true rfl)⟩ 12 rfl rfl rfl rfl hl3.1 rfl (Nat.le_of_ble_eq_true rfl) dX12_readPath_128) (fun r_155 u_154 H1 locs hp hw156 => ?_)
            generalize H1 = H at hw156 ⊢
            have hw157 : WD D A s.heap (MW cI cJ M mr (upd (upd (upd (upd (upd (upd mi 22 nspot_120) 23 nfrom_121) 24 ntoken_122) 25 nvalue_123) 38 nreadFault_124) 39 nreadPlace_125) (va_up mf 43 g_151) mg) H locs := hw156
            have hp_158 := hp
            rcases hp_158 with ⟨rfl, ha_159, ha_160⟩ | ⟨rfl, ha_161⟩ | ⟨rfl, ha_162⟩
            · skip
              have ha_159 : ntoken_122.toInt = 2 := ha_159
              have ha_160 : nvalue_123.toInt = (19 : Int32).toInt := ha_160
              rw [show (19 : Int32).toInt = 19 from by decide +kernel] at ha_160
              refine lv_if_eq (pc := 131) (tgt := 167) E.1 E.2.1 dX12_readPath_131 (by decide) (fun c_163 => absurd c_163 (mneE (a := 1) (b := 0) (by decide +kernel) (by decide +kernel) (by omega))) (fun _ => ?_)
              refine lv_aload_n (pc := 134) E.1 E.2.1 dX12_readPath_134 rfl (lv_at hl3 0 rfl) ?_
              refine cm_v (pc := 135) hw157 (rn_M (As := []) (rest := []) E hw157 (s_reads2 l D cI cJ _ M mr (upd (upd (upd (upd (upd (upd mi 22 nspot_120) 23 nfrom_121) 24 ntoken_122) 25 nvalue_123) 38 nreadFault_124) 39 nreadPlace_125) (va_up mf 43 g_151) mg (by show 0 ≤ nspot_120.toInt; omega) (by show nspot_120.toInt ≤ (mi 21).toInt; omega) (by show (mi 21).toInt ≤ 400; omega) (by show ((mf 26) 153).toInt = 32; omega) (show (∀ j : Nat, j < 154 → (mf 26) j = w0 j) from lf_words)) (gdV q_1666 q_1668 q_52 q_162 q_1669) hdV_X12_reads ⟨rfl, rfl⟩ ⟨(Nat.le_of_ble_eq_true rfl), (Nat.le_of_ble_eq_true rfl)⟩ ⟨(Nat.le_of_ble_eq_true rfl), (Nat.le_of_ble_eq_true rfl)⟩ 12 rfl rfl rfl rfl hl3.1 rfl (Nat.le_of_ble_eq_true rfl) dX12_readPath_135) (fun u_164 H1 locs hp hw166 => ?_)
              obtain ⟨nspot_167, nfrom_168, ntoken_169, nvalue_170⟩ := u_164
              generalize H1 = H at hw166 ⊢
              have hw171 : WD D A s.heap (MW cI cJ M mr (upd (upd (upd (upd (upd (upd mi 22 nspot_167) 23 nfrom_168) 24 ntoken_169) 25 nvalue_170) 38 nreadFault_124) 39 nreadPlace_125) (va_up mf 43 g_151) mg) H locs := hw166
              obtain ⟨hp_172, hp_173, hp_174, hp_175, hp_176, hp_177, hp_178, hp_179⟩ := hp
              have hp_172 : 0 ≤ nfrom_168.toInt := hp_172
              have hp_173 : nfrom_168.toInt ≤ nspot_167.toInt := hp_173
              have hp_174 : nspot_167.toInt ≤ (mi 21).toInt := hp_174
              have hp_175 : 0 ≤ ntoken_169.toInt := hp_175
              have hp_176 : ntoken_169.toInt ≤ 4 := hp_176
              have hp_177 : ntoken_169.toInt ≤ 4 * nspot_167.toInt - 4 * nfrom_168.toInt := hp_177
              have hp_178 : nspot_120.toInt ≤ nfrom_168.toInt := hp_178
              have hp_179 : (ntoken_169.toInt = 2 → nvalue_170.toInt = 30 → nfrom_168.toInt + 3 ≤ nspot_167.toInt) := hp_179
              refine lv_aload_n (pc := 138) E.1 E.2.1 dX12_readPath_138 rfl (lv_at hl3 0 rfl) ?_
              refine x_get (pc := 139) (T := TX12) (N := 70) (ci := 12) (v := .ref (mr 43)) E hw171 inX12 0 43 q_1442 rfl rfl (by decide) rfl rfl dX12_readPath_139 ?_
              refine lv_iload_n (pc := 142) E.1 E.2.1 dX12_readPath_142 rfl (lv_at hl3 1 rfl) ?_
              refine lv_iconst (pc := 143) (v := 3) E.1 E.2.1 dX12_readPath_143 (by decide +kernel) ?_
              refine lv_iadd (pc := 144) E.1 E.2.1 dX12_readPath_144 ?_
              refine lv_topi (fun v_180 ev_180 => ?_)
              have hv_180 : v_180.toInt = z_at.toInt + 3 := by rw [ev_180]; exact addE rfl (by decide +kernel) (by omega)
              refine lv_aload_n (pc := 145) E.1 E.2.1 dX12_readPath_145 rfl (lv_at hl3 0 rfl) ?_
              refine lv_iconst (pc := 146) (v := 0) E.1 E.2.1 dX12_readPath_146 (by decide +kernel) ?_
              refine lv_bipush (pc := 147) (v := 9) E.1 E.2.1 dX12_readPath_147 (by decide +kernel) ?_
              refine cm_i (pc := 149) hw171 (rn_M (As := [.int 0, .int 9]) (rest := [.int v_180, .ref (mr 43)]) E hw171 (s_readNumber l D cI cJ _ M mr (upd (upd (upd (upd (upd (upd mi 22 nspot_167) 23 nfrom_168) 24 ntoken_169) 25 nvalue_170) 38 nreadFault_124) 39 nreadPlace_125) (va_up mf 43 g_151) mg 0 9 (by show 0 ≤ nfrom_168.toInt; omega) (by show nfrom_168.toInt ≤ nspot_167.toInt; omega) (by show nspot_167.toInt ≤ (mi 21).toInt; omega) (by show (mi 21).toInt ≤ 400; omega) (by show 0 ≤ ntoken_169.toInt; omega) (by show ntoken_169.toInt ≤ 4; omega) (by show ntoken_169.toInt ≤ 4 * nspot_167.toInt - 4 * nfrom_168.toInt; omega) (by show ((mf 26) 153).toInt = 32; omega) (show (∀ j : Nat, j < 154 → (mf 26) j = w0 j) from lf_words) (show (ntoken_169.toInt = 2 → nvalue_170.toInt = 30 → nfrom_168.toInt + 3 ≤ nspot_167.toInt) from hp_179)) (gdV q_1706 q_1708 q_62 q_162 q_1709) hdV_X12_readNumber ⟨rfl, rfl⟩ ⟨(Nat.le_of_ble_eq_true rfl), (Nat.le_of_ble_eq_true rfl)⟩ ⟨(Nat.le_of_ble_eq_true rfl), (Nat.le_of_ble_eq_true rfl)⟩ 12 rfl rfl rfl rfl hl3.1 rfl (Nat.le_of_ble_eq_true rfl) dX12_readPath_149) (fun r_182 u_181 H1 locs hp hw183 => ?_)
              obtain ⟨nspot_184, nfrom_185, ntoken_186, nvalue_187, nreadFault_188, nreadPlace_189⟩ := u_181
              generalize H1 = H at hw183 ⊢
              have hw190 : WD D A s.heap (MW cI cJ M mr (upd (upd (upd (upd (upd (upd mi 22 nspot_184) 23 nfrom_185) 24 ntoken_186) 25 nvalue_187) 38 nreadFault_188) 39 nreadPlace_189) (va_up mf 43 g_151) mg) H locs := hw183
              obtain ⟨hp_191, hp_192, hp_193, hp_194, hp_195, hp_196, hp_197, hp_198⟩ := hp
              have hp_191 : 0 ≤ nfrom_185.toInt := hp_191
              have hp_192 : nfrom_185.toInt ≤ nspot_184.toInt := hp_192
              have hp_193 : nspot_184.toInt ≤ (mi 21).toInt := hp_193
              have hp_194 : 0 ≤ ntoken_186.toInt := hp_194
              have hp_195 : ntoken_186.toInt ≤ 4 := hp_195
              have hp_196 : ntoken_186.toInt ≤ 4 * nspot_184.toInt - 4 * nfrom_185.toInt := hp_196
              have hp_197 : (ntoken_186.toInt = 2 → nvalue_187.toInt = 30 → nfrom_185.toInt + 3 ≤ nspot_184.toInt) := hp_197
              rcases hp_198 with rfl | ⟨ha_199, ha_200, ha_201⟩
              · skip
                refine x_iastG (pc := 152) (f := g_151) (wf := fun g => (MW cI cJ M mr (upd (upd (upd (upd (upd (upd mi 22 nspot_184) 23 nfrom_185) 24 ntoken_186) 25 nvalue_187) 38 nreadFault_188) 39 nreadPlace_189) (va_up mf 43 g) mg)) E hw190 21 rfl (inbE (a := v_180.toInt) rfl (by omega)) (fun _ => rfl) dX12_readPath_152 (fun g_202 H locs eg_202 hw203 => ?_)
                have hpk_204 : pathsOK g_202 := pathsOK_hi hpk_153 eg_202 (by omega)
                refine lv_aload_n (pc := 153) E.1 E.2.1 dX12_readPath_153 rfl (lv_at hl3 0 rfl) ?_
                refine x_get (pc := 154) (T := TX12) (N := 70) (ci := 12) (v := .ref (mr 43)) E hw203 inX12 0 43 q_1442 rfl rfl (by decide) rfl rfl dX12_readPath_154 ?_
                refine lv_iload_n (pc := 157) E.1 E.2.1 dX12_readPath_157 rfl (lv_at hl3 1 rfl) ?_
                refine lv_iconst (pc := 158) (v := 3) E.1 E.2.1 dX12_readPath_158 (by decide +kernel) ?_
                refine lv_iadd (pc := 159) E.1 E.2.1 dX12_readPath_159 ?_
                refine lv_topi (fun v_205 ev_205 => ?_)
                have hv_205 : v_205.toInt = z_at.toInt + 3 := by rw [ev_205]; exact addE rfl (by decide +kernel) (by omega)
                refine x_iald (pc := 160) (f := g_202) E hw203 21 rfl (inbE (a := v_205.toInt) rfl (by omega)) dX12_readPath_160 ?_
                refine lv_topi (fun v_206 ev_206 => ?_)
                have hsv_206 : v_206.toInt = ((-1) : Int32).toInt := by rw [ev_206, eg_202, show v_205.toNatClampNeg = v_180.toNatClampNeg from (by have q_0 := idxI (x := v_205) (by omega); have q_1 := idxI (x := v_180) (by omega); omega), pk_us]
                rw [show ((-1) : Int32).toInt = -1 from by decide +kernel] at hsv_206
                refine lv_iconst (pc := 161) (v := (-1)) E.1 E.2.1 dX12_readPath_161 (by decide +kernel) ?_
                refine lv_icmp_ne (pc := 162) (tgt := 167) E.1 E.2.1 dX12_readPath_162 (by decide) (fun c_207 => absurd (meqE (a := v_206.toInt) (b := (-1)) rfl (by decide +kernel) (by omega)) c_207) (fun _ => ?_)
                refine lv_iconst (pc := 165) (v := (-1)) E.1 E.2.1 dX12_readPath_165 (by decide +kernel) ?_
                exact em_i (w1 := (fun (u : Int32 × Int32 × Int32 × Int32 × Int32 × Int32 × (Nat → Int32)) => (MW cI cJ M mr (upd (upd (upd (upd (upd (upd mi 22 u.1) 23 u.2.1) 24 u.2.2.1) 25 u.2.2.2.1) 38 u.2.2.2.2.1) 39 u.2.2.2.2.2.1) (va_up mf 43 u.2.2.2.2.2.2) mg))) E hr hlk (nspot_184, nfrom_185, ntoken_186, nvalue_187, nreadFault_188, nreadPlace_189, g_202) hw203 ⟨(by show 0 ≤ nfrom_185.toInt; have k_0 : ((-1) : Int32).toInt = -1 := (by decide +kernel); omega), (by show nfrom_185.toInt ≤ nspot_184.toInt; have k_0 : ((-1) : Int32).toInt = -1 := (by decide +kernel); omega), (by show nspot_184.toInt ≤ (mi 21).toInt; have k_0 : ((-1) : Int32).toInt = -1 := (by decide +kernel); omega), (by show 0 ≤ ntoken_186.toInt; have k_0 : ((-1) : Int32).toInt = -1 := (by decide +kernel); omega), (by show ntoken_186.toInt ≤ 4; have k_0 : ((-1) : Int32).toInt = -1 := (by decide +kernel); omega), (by show ntoken_186.toInt ≤ 4 * nspot_184.toInt - 4 * nfrom_185.toInt; have k_0 : ((-1) : Int32).toInt = -1 := (by decide +kernel); omega), hpk_204, hp_197, (fun h => absurd h (by decide +kernel)), (Or.inl rfl)⟩ (Nat.le_of_ble_eq_true rfl) (Nat.le_of_ble_eq_true rfl) dX12_readPath_166
              · skip
                have ha_199 : (0 : Int32).toInt ≤ r_182.toInt := ha_199
                rw [show (0 : Int32).toInt = 0 from by decide +kernel] at ha_199
                have ha_200 : r_182.toInt ≤ (9 : Int32).toInt := ha_200
                rw [show (9 : Int32).toInt = 9 from by decide +kernel] at ha_200
                have ha_201 : nfrom_168.toInt + 1 ≤ nfrom_185.toInt := ha_201
                refine x_iastG (pc := 152) (f := g_151) (wf := fun g => (MW cI cJ M mr (upd (upd (upd (upd (upd (upd mi 22 nspot_184) 23 nfrom_185) 24 ntoken_186) 25 nvalue_187) 38 nreadFault_188) 39 nreadPlace_189) (va_up mf 43 g) mg)) E hw190 21 rfl (inbE (a := v_180.toInt) rfl (by omega)) (fun _ => rfl) dX12_readPath_152 (fun g_208 H locs eg_208 hw209 => ?_)
                have hpk_210 : pathsOK g_208 := pathsOK_hi hpk_153 eg_208 (by omega)
                refine lv_aload_n (pc := 153) E.1 E.2.1 dX12_readPath_153 rfl (lv_at hl3 0 rfl) ?_
                refine x_get (pc := 154) (T := TX12) (N := 70) (ci := 12) (v := .ref (mr 43)) E hw209 inX12 0 43 q_1442 rfl rfl (by decide) rfl rfl dX12_readPath_154 ?_
                refine lv_iload_n (pc := 157) E.1 E.2.1 dX12_readPath_157 rfl (lv_at hl3 1 rfl) ?_
                refine lv_iconst (pc := 158) (v := 3) E.1 E.2.1 dX12_readPath_158 (by decide +kernel) ?_
                refine lv_iadd (pc := 159) E.1 E.2.1 dX12_readPath_159 ?_
                refine lv_topi (fun v_211 ev_211 => ?_)
                have hv_211 : v_211.toInt = z_at.toInt + 3 := by rw [ev_211]; exact addE rfl (by decide +kernel) (by omega)
                refine x_iald (pc := 160) (f := g_208) E hw209 21 rfl (inbE (a := v_211.toInt) rfl (by omega)) dX12_readPath_160 ?_
                refine lv_topi (fun v_212 ev_212 => ?_)
                have hsv_212 : v_212.toInt = r_182.toInt := by rw [ev_212, eg_208, show v_211.toNatClampNeg = v_180.toNatClampNeg from (by have q_0 := idxI (x := v_211) (by omega); have q_1 := idxI (x := v_180) (by omega); omega), pk_us]
                refine lv_iconst (pc := 161) (v := (-1)) E.1 E.2.1 dX12_readPath_161 (by decide +kernel) ?_
                refine lv_icmp_ne (pc := 162) (tgt := 167) E.1 E.2.1 dX12_readPath_162 (by decide) (fun _ => ?_) (fun c_213 => absurd c_213 (mneE (a := v_212.toInt) (b := (-1)) rfl (by decide +kernel) (by omega)))
                refine lv_aload_n (pc := 167) E.1 E.2.1 dX12_readPath_167 rfl (lv_at hl3 0 rfl) ?_
                refine lv_bipush (pc := 168) (v := 59) E.1 E.2.1 dX12_readPath_168 (by decide +kernel) ?_
                refine cm_i (pc := 170) hw209 (rn_M (As := [.int 59]) (rest := []) E hw209 (s_readMark l D cI cJ _ M mr (upd (upd (upd (upd (upd (upd mi 22 nspot_184) 23 nfrom_185) 24 ntoken_186) 25 nvalue_187) 38 nreadFault_188) 39 nreadPlace_189) (va_up mf 43 g_208) mg 59 (by show 0 ≤ nfrom_185.toInt; omega) (by show nfrom_185.toInt ≤ nspot_184.toInt; omega) (by show nspot_184.toInt ≤ (mi 21).toInt; omega) (by show (mi 21).toInt ≤ 400; omega) (by show 0 ≤ ntoken_186.toInt; omega) (by show ntoken_186.toInt ≤ 4; omega) (by show ntoken_186.toInt ≤ 4 * nspot_184.toInt - 4 * nfrom_185.toInt; omega) (by show ((mf 26) 153).toInt = 32; omega) (show (∀ j : Nat, j < 154 → (mf 26) j = w0 j) from lf_words) (show (ntoken_186.toInt = 2 → nvalue_187.toInt = 30 → nfrom_185.toInt + 3 ≤ nspot_184.toInt) from hp_197)) (gdV q_1714 q_1716 q_64 q_162 q_1717) hdV_X12_readMark ⟨rfl, rfl⟩ ⟨(Nat.le_of_ble_eq_true rfl), (Nat.le_of_ble_eq_true rfl)⟩ ⟨(Nat.le_of_ble_eq_true rfl), (Nat.le_of_ble_eq_true rfl)⟩ 12 rfl rfl rfl rfl hl3.1 rfl (Nat.le_of_ble_eq_true rfl) dX12_readPath_170) (fun r_215 u_214 H1 locs hp hw216 => ?_)
                obtain ⟨nspot_217, nfrom_218, ntoken_219, nvalue_220, nreadFault_221, nreadPlace_222⟩ := u_214
                generalize H1 = H at hw216 ⊢
                have hw223 : WD D A s.heap (MW cI cJ M mr (upd (upd (upd (upd (upd (upd mi 22 nspot_217) 23 nfrom_218) 24 ntoken_219) 25 nvalue_220) 38 nreadFault_221) 39 nreadPlace_222) (va_up mf 43 g_208) mg) H locs := hw216
                obtain ⟨hp_224, hp_225, hp_226, hp_227, hp_228, hp_229, hp_230, hp_231⟩ := hp
                have hp_224 : 0 ≤ nfrom_218.toInt := hp_224
                have hp_225 : nfrom_218.toInt ≤ nspot_217.toInt := hp_225
                have hp_226 : nspot_217.toInt ≤ (mi 21).toInt := hp_226
                have hp_227 : 0 ≤ ntoken_219.toInt := hp_227
                have hp_228 : ntoken_219.toInt ≤ 4 := hp_228
                have hp_229 : ntoken_219.toInt ≤ 4 * nspot_217.toInt - 4 * nfrom_218.toInt := hp_229
                have hp_230 : (ntoken_219.toInt = 2 → nvalue_220.toInt = 30 → nfrom_218.toInt + 3 ≤ nspot_217.toInt) := hp_230
                rcases hp_231 with rfl | ⟨rfl, ha_232⟩
                · skip
                  exact em_i (w1 := (fun (u : Int32 × Int32 × Int32 × Int32 × Int32 × Int32 × (Nat → Int32)) => (MW cI cJ M mr (upd (upd (upd (upd (upd (upd mi 22 u.1) 23 u.2.1) 24 u.2.2.1) 25 u.2.2.2.1) 38 u.2.2.2.2.1) 39 u.2.2.2.2.2.1) (va_up mf 43 u.2.2.2.2.2.2) mg))) E hr hlk (nspot_217, nfrom_218, ntoken_219, nvalue_220, nreadFault_221, nreadPlace_222, g_208) hw223 ⟨(by show 0 ≤ nfrom_218.toInt; have k_0 : ((-1) : Int32).toInt = -1 := (by decide +kernel); omega), (by show nfrom_218.toInt ≤ nspot_217.toInt; have k_0 : ((-1) : Int32).toInt = -1 := (by decide +kernel); omega), (by show nspot_217.toInt ≤ (mi 21).toInt; have k_0 : ((-1) : Int32).toInt = -1 := (by decide +kernel); omega), (by show 0 ≤ ntoken_219.toInt; have k_0 : ((-1) : Int32).toInt = -1 := (by decide +kernel); omega), (by show ntoken_219.toInt ≤ 4; have k_0 : ((-1) : Int32).toInt = -1 := (by decide +kernel); omega), (by show ntoken_219.toInt ≤ 4 * nspot_217.toInt - 4 * nfrom_218.toInt; have k_0 : ((-1) : Int32).toInt = -1 := (by decide +kernel); omega), hpk_210, hp_230, (fun h => absurd h (by decide +kernel)), (Or.inl rfl)⟩ (Nat.le_of_ble_eq_true rfl) (Nat.le_of_ble_eq_true rfl) dX12_readPath_173
                · skip
                  have ha_232 : nfrom_185.toInt + 1 ≤ nfrom_218.toInt := ha_232
                  exact em_i (w1 := (fun (u : Int32 × Int32 × Int32 × Int32 × Int32 × Int32 × (Nat → Int32)) => (MW cI cJ M mr (upd (upd (upd (upd (upd (upd mi 22 u.1) 23 u.2.1) 24 u.2.2.1) 25 u.2.2.2.1) 38 u.2.2.2.2.1) 39 u.2.2.2.2.2.1) (va_up mf 43 u.2.2.2.2.2.2) mg))) E hr hlk (nspot_217, nfrom_218, ntoken_219, nvalue_220, nreadFault_221, nreadPlace_222, g_208) hw223 ⟨(by show 0 ≤ nfrom_218.toInt; have k_0 : (0 : Int32).toInt = 0 := (by decide +kernel); omega), (by show nfrom_218.toInt ≤ nspot_217.toInt; have k_0 : (0 : Int32).toInt = 0 := (by decide +kernel); omega), (by show nspot_217.toInt ≤ (mi 21).toInt; have k_0 : (0 : Int32).toInt = 0 := (by decide +kernel); omega), (by show 0 ≤ ntoken_219.toInt; have k_0 : (0 : Int32).toInt = 0 := (by decide +kernel); omega), (by show ntoken_219.toInt ≤ 4; have k_0 : (0 : Int32).toInt = 0 := (by decide +kernel); omega), (by show ntoken_219.toInt ≤ 4 * nspot_217.toInt - 4 * nfrom_218.toInt; have k_0 : (0 : Int32).toInt = 0 := (by decide +kernel); omega), hpk_210, hp_230, (fun _ => (show PT (mf 43) g_208 (z_at).toNatClampNeg from ⟨⟨(by have q0 := idxI (x := z_at) (by omega); rw [un1 eg_208 (by omega) (by omega), un1 eg_151 (by omega) (by omega), un1 eg_144 (by omega) (by omega), un1 eg_89 (by omega) (by omega), us1 eg_33 (by omega) (by omega)]; omega), (by have q0 := idxI (x := z_at) (by omega); rw [un1 eg_208 (by omega) (by omega), un1 eg_151 (by omega) (by omega), un1 eg_144 (by omega) (by omega), us1 eg_89 (by omega) (by omega)]; omega)⟩, fun j hj => by have q0 := idxI (x := z_at) (by omega); rw [un1 eg_208 (by omega) (by omega), un1 eg_151 (by omega) (by omega), un1 eg_144 (by omega) (by omega), un1 eg_89 (by omega) (by omega), un1 eg_33 (by omega) (by omega)]⟩)), (Or.inr (⟨rfl, (by show (mi 23).toInt + 1 ≤ nfrom_218.toInt; omega)⟩))⟩ (Nat.le_of_ble_eq_true rfl) (Nat.le_of_ble_eq_true rfl) dX12_readPath_173
            · skip
              have ha_161 : ¬ ntoken_122.toInt = 2 := ha_161
              refine lv_if_eq (pc := 131) (tgt := 167) E.1 E.2.1 dX12_readPath_131 (by decide) (fun _ => ?_) (fun c_233 => absurd (meqE (a := 0) (b := 0) (by decide +kernel) (by decide +kernel) (by omega)) c_233)
              refine lv_aload_n (pc := 167) E.1 E.2.1 dX12_readPath_167 rfl (lv_at hl3 0 rfl) ?_
              refine lv_bipush (pc := 168) (v := 59) E.1 E.2.1 dX12_readPath_168 (by decide +kernel) ?_
              refine cm_i (pc := 170) hw157 (rn_M (As := [.int 59]) (rest := []) E hw157 (s_readMark l D cI cJ _ M mr (upd (upd (upd (upd (upd (upd mi 22 nspot_120) 23 nfrom_121) 24 ntoken_122) 25 nvalue_123) 38 nreadFault_124) 39 nreadPlace_125) (va_up mf 43 g_151) mg 59 (by show 0 ≤ nfrom_121.toInt; omega) (by show nfrom_121.toInt ≤ nspot_120.toInt; omega) (by show nspot_120.toInt ≤ (mi 21).toInt; omega) (by show (mi 21).toInt ≤ 400; omega) (by show 0 ≤ ntoken_122.toInt; omega) (by show ntoken_122.toInt ≤ 4; omega) (by show ntoken_122.toInt ≤ 4 * nspot_120.toInt - 4 * nfrom_121.toInt; omega) (by show ((mf 26) 153).toInt = 32; omega) (show (∀ j : Nat, j < 154 → (mf 26) j = w0 j) from lf_words) (show (ntoken_122.toInt = 2 → nvalue_123.toInt = 30 → nfrom_121.toInt + 3 ≤ nspot_120.toInt) from hp_133)) (gdV q_1714 q_1716 q_64 q_162 q_1717) hdV_X12_readMark ⟨rfl, rfl⟩ ⟨(Nat.le_of_ble_eq_true rfl), (Nat.le_of_ble_eq_true rfl)⟩ ⟨(Nat.le_of_ble_eq_true rfl), (Nat.le_of_ble_eq_true rfl)⟩ 12 rfl rfl rfl rfl hl3.1 rfl (Nat.le_of_ble_eq_true rfl) dX12_readPath_170) (fun r_235 u_234 H1 locs hp hw236 => ?_)
              obtain ⟨nspot_237, nfrom_238, ntoken_239, nvalue_240, nreadFault_241, nreadPlace_242⟩ := u_234
              generalize H1 = H at hw236 ⊢
              have hw243 : WD D A s.heap (MW cI cJ M mr (upd (upd (upd (upd (upd (upd mi 22 nspot_237) 23 nfrom_238) 24 ntoken_239) 25 nvalue_240) 38 nreadFault_241) 39 nreadPlace_242) (va_up mf 43 g_151) mg) H locs := hw236
              obtain ⟨hp_244, hp_245, hp_246, hp_247, hp_248, hp_249, hp_250, hp_251⟩ := hp
              have hp_244 : 0 ≤ nfrom_238.toInt := hp_244
              have hp_245 : nfrom_238.toInt ≤ nspot_237.toInt := hp_245
              have hp_246 : nspot_237.toInt ≤ (mi 21).toInt := hp_246
              have hp_247 : 0 ≤ ntoken_239.toInt := hp_247
              have hp_248 : ntoken_239.toInt ≤ 4 := hp_248
              have hp_249 : ntoken_239.toInt ≤ 4 * nspot_237.toInt - 4 * nfrom_238.toInt := hp_249
              have hp_250 : (ntoken_239.toInt = 2 → nvalue_240.toInt = 30 → nfrom_238.toInt + 3 ≤ nspot_237.toInt) := hp_250
              rcases hp_251 with rfl | ⟨rfl, ha_252⟩
              · skip
                exact em_i (w1 := (fun (u : Int32 × Int32 × Int32 × Int32 × Int32 × Int32 × (Nat → Int32)) => (MW cI cJ M mr (upd (upd (upd (upd (upd (upd mi 22 u.1) 23 u.2.1) 24 u.2.2.1) 25 u.2.2.2.1) 38 u.2.2.2.2.1) 39 u.2.2.2.2.2.1) (va_up mf 43 u.2.2.2.2.2.2) mg))) E hr hlk (nspot_237, nfrom_238, ntoken_239, nvalue_240, nreadFault_241, nreadPlace_242, g_151) hw243 ⟨(by show 0 ≤ nfrom_238.toInt; have k_0 : ((-1) : Int32).toInt = -1 := (by decide +kernel); omega), (by show nfrom_238.toInt ≤ nspot_237.toInt; have k_0 : ((-1) : Int32).toInt = -1 := (by decide +kernel); omega), (by show nspot_237.toInt ≤ (mi 21).toInt; have k_0 : ((-1) : Int32).toInt = -1 := (by decide +kernel); omega), (by show 0 ≤ ntoken_239.toInt; have k_0 : ((-1) : Int32).toInt = -1 := (by decide +kernel); omega), (by show ntoken_239.toInt ≤ 4; have k_0 : ((-1) : Int32).toInt = -1 := (by decide +kernel); omega), (by show ntoken_239.toInt ≤ 4 * nspot_237.toInt - 4 * nfrom_238.toInt; have k_0 : ((-1) : Int32).toInt = -1 := (by decide +kernel); omega), hpk_153, hp_250, (fun h => absurd h (by decide +kernel)), (Or.inl rfl)⟩ (Nat.le_of_ble_eq_true rfl) (Nat.le_of_ble_eq_true rfl) dX12_readPath_173
              · skip
                have ha_252 : nfrom_121.toInt + 1 ≤ nfrom_238.toInt := ha_252
                exact em_i (w1 := (fun (u : Int32 × Int32 × Int32 × Int32 × Int32 × Int32 × (Nat → Int32)) => (MW cI cJ M mr (upd (upd (upd (upd (upd (upd mi 22 u.1) 23 u.2.1) 24 u.2.2.1) 25 u.2.2.2.1) 38 u.2.2.2.2.1) 39 u.2.2.2.2.2.1) (va_up mf 43 u.2.2.2.2.2.2) mg))) E hr hlk (nspot_237, nfrom_238, ntoken_239, nvalue_240, nreadFault_241, nreadPlace_242, g_151) hw243 ⟨(by show 0 ≤ nfrom_238.toInt; have k_0 : (0 : Int32).toInt = 0 := (by decide +kernel); omega), (by show nfrom_238.toInt ≤ nspot_237.toInt; have k_0 : (0 : Int32).toInt = 0 := (by decide +kernel); omega), (by show nspot_237.toInt ≤ (mi 21).toInt; have k_0 : (0 : Int32).toInt = 0 := (by decide +kernel); omega), (by show 0 ≤ ntoken_239.toInt; have k_0 : (0 : Int32).toInt = 0 := (by decide +kernel); omega), (by show ntoken_239.toInt ≤ 4; have k_0 : (0 : Int32).toInt = 0 := (by decide +kernel); omega), (by show ntoken_239.toInt ≤ 4 * nspot_237.toInt - 4 * nfrom_238.toInt; have k_0 : (0 : Int32).toInt = 0 := (by decide +kernel); omega), hpk_153, hp_250, (fun _ => (show PT (mf 43) g_151 (z_at).toNatClampNeg from ⟨⟨(by have q0 := idxI (x := z_at) (by omega); rw [un1 eg_151 (by omega) (by omega), un1 eg_144 (by omega) (by omega), un1 eg_89 (by omega) (by omega), us1 eg_33 (by omega) (by omega)]; omega), (by have q0 := idxI (x := z_at) (by omega); rw [un1 eg_151 (by omega) (by omega), un1 eg_144 (by omega) (by omega), us1 eg_89 (by omega) (by omega)]; omega)⟩, fun j hj => by have q0 := idxI (x := z_at) (by omega); rw [un1 eg_151 (by omega) (by omega), un1 eg_144 (by omega) (by omega), un1 eg_89 (by omega) (by omega), un1 eg_33 (by omega) (by omega)]⟩)), (Or.inr (⟨rfl, (by show (mi 23).toInt + 1 ≤ nfrom_238.toInt; omega)⟩))⟩ (Nat.le_of_ble_eq_true rfl) (Nat.le_of_ble_eq_true rfl) dX12_readPath_173
            · skip
              have ha_162 : ¬ nvalue_123.toInt = (19 : Int32).toInt := ha_162
              rw [show (19 : Int32).toInt = 19 from by decide +kernel] at ha_162
              refine lv_if_eq (pc := 131) (tgt := 167) E.1 E.2.1 dX12_readPath_131 (by decide) (fun _ => ?_) (fun c_253 => absurd (meqE (a := 0) (b := 0) (by decide +kernel) (by decide +kernel) (by omega)) c_253)
              refine lv_aload_n (pc := 167) E.1 E.2.1 dX12_readPath_167 rfl (lv_at hl3 0 rfl) ?_
              refine lv_bipush (pc := 168) (v := 59) E.1 E.2.1 dX12_readPath_168 (by decide +kernel) ?_
              refine cm_i (pc := 170) hw157 (rn_M (As := [.int 59]) (rest := []) E hw157 (s_readMark l D cI cJ _ M mr (upd (upd (upd (upd (upd (upd mi 22 nspot_120) 23 nfrom_121) 24 ntoken_122) 25 nvalue_123) 38 nreadFault_124) 39 nreadPlace_125) (va_up mf 43 g_151) mg 59 (by show 0 ≤ nfrom_121.toInt; omega) (by show nfrom_121.toInt ≤ nspot_120.toInt; omega) (by show nspot_120.toInt ≤ (mi 21).toInt; omega) (by show (mi 21).toInt ≤ 400; omega) (by show 0 ≤ ntoken_122.toInt; omega) (by show ntoken_122.toInt ≤ 4; omega) (by show ntoken_122.toInt ≤ 4 * nspot_120.toInt - 4 * nfrom_121.toInt; omega) (by show ((mf 26) 153).toInt = 32; omega) (show (∀ j : Nat, j < 154 → (mf 26) j = w0 j) from lf_words) (show (ntoken_122.toInt = 2 → nvalue_123.toInt = 30 → nfrom_121.toInt + 3 ≤ nspot_120.toInt) from hp_133)) (gdV q_1714 q_1716 q_64 q_162 q_1717) hdV_X12_readMark ⟨rfl, rfl⟩ ⟨(Nat.le_of_ble_eq_true rfl), (Nat.le_of_ble_eq_true rfl)⟩ ⟨(Nat.le_of_ble_eq_true rfl), (Nat.le_of_ble_eq_true rfl)⟩ 12 rfl rfl rfl rfl hl3.1 rfl (Nat.le_of_ble_eq_true rfl) dX12_readPath_170) (fun r_255 u_254 H1 locs hp hw256 => ?_)
              obtain ⟨nspot_257, nfrom_258, ntoken_259, nvalue_260, nreadFault_261, nreadPlace_262⟩ := u_254
              generalize H1 = H at hw256 ⊢
              have hw263 : WD D A s.heap (MW cI cJ M mr (upd (upd (upd (upd (upd (upd mi 22 nspot_257) 23 nfrom_258) 24 ntoken_259) 25 nvalue_260) 38 nreadFault_261) 39 nreadPlace_262) (va_up mf 43 g_151) mg) H locs := hw256
              obtain ⟨hp_264, hp_265, hp_266, hp_267, hp_268, hp_269, hp_270, hp_271⟩ := hp
              have hp_264 : 0 ≤ nfrom_258.toInt := hp_264
              have hp_265 : nfrom_258.toInt ≤ nspot_257.toInt := hp_265
              have hp_266 : nspot_257.toInt ≤ (mi 21).toInt := hp_266
              have hp_267 : 0 ≤ ntoken_259.toInt := hp_267
              have hp_268 : ntoken_259.toInt ≤ 4 := hp_268
              have hp_269 : ntoken_259.toInt ≤ 4 * nspot_257.toInt - 4 * nfrom_258.toInt := hp_269
              have hp_270 : (ntoken_259.toInt = 2 → nvalue_260.toInt = 30 → nfrom_258.toInt + 3 ≤ nspot_257.toInt) := hp_270
              rcases hp_271 with rfl | ⟨rfl, ha_272⟩
              · skip
                exact em_i (w1 := (fun (u : Int32 × Int32 × Int32 × Int32 × Int32 × Int32 × (Nat → Int32)) => (MW cI cJ M mr (upd (upd (upd (upd (upd (upd mi 22 u.1) 23 u.2.1) 24 u.2.2.1) 25 u.2.2.2.1) 38 u.2.2.2.2.1) 39 u.2.2.2.2.2.1) (va_up mf 43 u.2.2.2.2.2.2) mg))) E hr hlk (nspot_257, nfrom_258, ntoken_259, nvalue_260, nreadFault_261, nreadPlace_262, g_151) hw263 ⟨(by show 0 ≤ nfrom_258.toInt; have k_0 : ((-1) : Int32).toInt = -1 := (by decide +kernel); omega), (by show nfrom_258.toInt ≤ nspot_257.toInt; have k_0 : ((-1) : Int32).toInt = -1 := (by decide +kernel); omega), (by show nspot_257.toInt ≤ (mi 21).toInt; have k_0 : ((-1) : Int32).toInt = -1 := (by decide +kernel); omega), (by show 0 ≤ ntoken_259.toInt; have k_0 : ((-1) : Int32).toInt = -1 := (by decide +kernel); omega), (by show ntoken_259.toInt ≤ 4; have k_0 : ((-1) : Int32).toInt = -1 := (by decide +kernel); omega), (by show ntoken_259.toInt ≤ 4 * nspot_257.toInt - 4 * nfrom_258.toInt; have k_0 : ((-1) : Int32).toInt = -1 := (by decide +kernel); omega), hpk_153, hp_270, (fun h => absurd h (by decide +kernel)), (Or.inl rfl)⟩ (Nat.le_of_ble_eq_true rfl) (Nat.le_of_ble_eq_true rfl) dX12_readPath_173
              · skip
                have ha_272 : nfrom_121.toInt + 1 ≤ nfrom_258.toInt := ha_272
                exact em_i (w1 := (fun (u : Int32 × Int32 × Int32 × Int32 × Int32 × Int32 × (Nat → Int32)) => (MW cI cJ M mr (upd (upd (upd (upd (upd (upd mi 22 u.1) 23 u.2.1) 24 u.2.2.1) 25 u.2.2.2.1) 38 u.2.2.2.2.1) 39 u.2.2.2.2.2.1) (va_up mf 43 u.2.2.2.2.2.2) mg))) E hr hlk (nspot_257, nfrom_258, ntoken_259, nvalue_260, nreadFault_261, nreadPlace_262, g_151) hw263 ⟨(by show 0 ≤ nfrom_258.toInt; have k_0 : (0 : Int32).toInt = 0 := (by decide +kernel); omega), (by show nfrom_258.toInt ≤ nspot_257.toInt; have k_0 : (0 : Int32).toInt = 0 := (by decide +kernel); omega), (by show nspot_257.toInt ≤ (mi 21).toInt; have k_0 : (0 : Int32).toInt = 0 := (by decide +kernel); omega), (by show 0 ≤ ntoken_259.toInt; have k_0 : (0 : Int32).toInt = 0 := (by decide +kernel); omega), (by show ntoken_259.toInt ≤ 4; have k_0 : (0 : Int32).toInt = 0 := (by decide +kernel); omega), (by show ntoken_259.toInt ≤ 4 * nspot_257.toInt - 4 * nfrom_258.toInt; have k_0 : (0 : Int32).toInt = 0 := (by decide +kernel); omega), hpk_153, hp_270, (fun _ => (show PT (mf 43) g_151 (z_at).toNatClampNeg from ⟨⟨(by have q0 := idxI (x := z_at) (by omega); rw [un1 eg_151 (by omega) (by omega), un1 eg_144 (by omega) (by omega), un1 eg_89 (by omega) (by omega), us1 eg_33 (by omega) (by omega)]; omega), (by have q0 := idxI (x := z_at) (by omega); rw [un1 eg_151 (by omega) (by omega), un1 eg_144 (by omega) (by omega), us1 eg_89 (by omega) (by omega)]; omega)⟩, fun j hj => by have q0 := idxI (x := z_at) (by omega); rw [un1 eg_151 (by omega) (by omega), un1 eg_144 (by omega) (by omega), un1 eg_89 (by omega) (by omega), un1 eg_33 (by omega) (by omega)]⟩)), (Or.inr (⟨rfl, (by show (mi 23).toInt + 1 ≤ nfrom_258.toInt; omega)⟩))⟩ (Nat.le_of_ble_eq_true rfl) (Nat.le_of_ble_eq_true rfl) dX12_readPath_173

set_option maxHeartbeats 4000000 in
set_option maxRecDepth 100000 in
theorem s_readPaths (l : Launch) (D : va_G) (cI cJ : ClassId) (sz M : Nat) (mr : Nat → Nat) (mi : Nat → Int32) (mf : Nat → Nat → Int32) (mg : Nat → Nat → Int64)  (h0 : 0 ≤ (mi 23).toInt) (h1 : (mi 23).toInt ≤ (mi 22).toInt) (h2 : (mi 22).toInt ≤ (mi 21).toInt) (h3 : (mi 21).toInt ≤ 400) (h4 : 0 ≤ (mi 24).toInt) (h5 : (mi 24).toInt ≤ 4) (h6 : (mi 24).toInt ≤ 4 * (mi 22).toInt - 4 * (mi 23).toInt) (h7 : ((mf 26) 153).toInt = 32) (h8 : 0 ≤ (mi 6).toInt ∧ (mi 6).toInt ≤ 10) (a_paths : pathsOK (mf 43)) (lf_words : (∀ j : Nat, j < 154 → (mf 26) j = w0 j)) (lf_again : ((mi 24).toInt = 2 → (mi 25).toInt = 30 → (mi 23).toInt + 3 ≤ (mi 22).toInt)) : Met l yX12_readPaths (Cond.code yX12_readPaths cX12_readPaths 2 (some .int) :: GW) ({ frames := 6, cells := 0, slots := 0, locals := 149 } : Room) (va_Pc [.ref M] (PW D cI cJ sz (MW cI cJ M mr mi mf mg) xT)) (va_Qi (fun (r : Int32) (u : Int32 × Int32 × Int32 × Int32 × Int32 × Int32 × (Nat → Int32)) => (0 ≤ u.2.1.toInt) ∧ (u.2.1.toInt ≤ u.1.toInt) ∧ (u.1.toInt ≤ (mi 21).toInt) ∧ (0 ≤ u.2.2.1.toInt) ∧ (u.2.2.1.toInt ≤ 4) ∧ (u.2.2.1.toInt ≤ 4 * u.1.toInt - 4 * u.2.1.toInt) ∧ (pathsOK u.2.2.2.2.2.2) ∧ ((u.2.2.1.toInt = 2 → u.2.2.2.1.toInt = 30 → u.2.1.toInt + 3 ≤ u.1.toInt)) ∧ ((0 ≤ (r : Int32).toInt → PD u.2.2.2.2.2.2 (r : Int32).toInt)) ∧ ((r = (-1)) ∨ (0 ≤ r.toInt ∧ r.toInt ≤ 40))) (fun u => QW D cI cJ (va_A (MW cI cJ M mr mi mf mg) sz) ((fun (u : Int32 × Int32 × Int32 × Int32 × Int32 × Int32 × (Nat → Int32)) => (MW cI cJ M mr (upd (upd (upd (upd (upd (upd mi 22 u.1) 23 u.2.1) 24 u.2.2.1) 25 u.2.2.2.1) 38 u.2.2.2.2.1) 39 u.2.2.2.2.2.1) (va_up mf 43 u.2.2.2.2.2.2) mg)) u)) (va_A (MW cI cJ M mr mi mf mg) sz)) 0 0 (va_A (MW cI cJ M mr mi mf mg) sz) := by
  refine mk_met (y := yX12_readPaths) (bytes := cX12_readPaths) (maxL := 2) (avs := [.ref M]) (WS := (MW cI cJ M mr mi mf mg)) (Qf := fun A => va_Qi (fun (r : Int32) (u : Int32 × Int32 × Int32 × Int32 × Int32 × Int32 × (Nat → Int32)) => (0 ≤ u.2.1.toInt) ∧ (u.2.1.toInt ≤ u.1.toInt) ∧ (u.1.toInt ≤ (mi 21).toInt) ∧ (0 ≤ u.2.2.1.toInt) ∧ (u.2.2.1.toInt ≤ 4) ∧ (u.2.2.1.toInt ≤ 4 * u.1.toInt - 4 * u.2.1.toInt) ∧ (pathsOK u.2.2.2.2.2.2) ∧ ((u.2.2.1.toInt = 2 → u.2.2.2.1.toInt = 30 → u.2.1.toInt + 3 ≤ u.1.toInt)) ∧ ((0 ≤ (r : Int32).toInt → PD u.2.2.2.2.2.2 (r : Int32).toInt)) ∧ ((r = (-1)) ∨ (0 ≤ r.toInt ∧ r.toInt ≤ 40))) (fun u => QW D cI cJ A ((fun (u : Int32 × Int32 × Int32 × Int32 × Int32 × Int32 × (Nat → Int32)) => (MW cI cJ M mr (upd (upd (upd (upd (upd (upd mi 22 u.1) 23 u.2.1) 24 u.2.2.1) 25 u.2.2.2.1) 38 u.2.2.2.2.1) 39 u.2.2.2.2.2.1) (va_up mf 43 u.2.2.2.2.2.2) mg)) u)) A) (by decide) (Nat.le_of_ble_eq_true rfl) ?_
  intro p e s m below meth c A ls E hr hlk hnm hX hw1 hl2
  have hl3 : lv_has ls 2 [(0, .ref M)] := hl2
  refine lv_iconst (pc := 0) (v := 0) E.1 E.2.1 dX12_readPaths_0 (by decide +kernel) ?_
  refine lv_istore_n (pc := 1) (lv' := [(1, .int 0), (0, .ref M)]) E.1 E.2.1 dX12_readPaths_1 rfl hl3 (by decide) rfl (fun ls hl4 => ?_)
  have loop_5 : ∀ (k : Nat) (x_6 : Int32) (x_7 : Int32) (x_8 : Int32) (x_9 : Int32) (x_10 : Int32) (x_11 : Int32) (x_12 : Int32) (g_13 : Nat → Int32) (H : Heap) (locs : List Loc) (ls : Array Slot), (0 ≤ x_8.toInt) ∧ (x_8.toInt ≤ x_7.toInt) ∧ (x_7.toInt ≤ (mi 21).toInt) ∧ (0 ≤ x_9.toInt) ∧ (x_9.toInt ≤ 4) ∧ (x_9.toInt ≤ 4 * x_7.toInt - 4 * x_8.toInt) ∧ (0 ≤ x_6.toInt) ∧ (x_6.toInt ≤ 40) ∧ pathsOK g_13 ∧ (PD g_13 x_6.toInt) ∧ ((x_9.toInt = 2 → x_10.toInt = 30 → x_8.toInt + 3 ≤ x_7.toInt)) → (mi 21).toInt - x_8.toInt < (k : Int) → WD D A s.heap (MW cI cJ M mr (upd (upd (upd (upd (upd (upd mi 22 x_7) 23 x_8) 24 x_9) 25 x_10) 38 x_11) 39 x_12) (va_up mf 43 g_13) mg) H locs → lv_has ls 2 [(1, .int x_6), (0, .ref M)] → W p l e ({ frames := 6, cells := 0, slots := 0, locals := 149 } : Room) s m ([.ref M] : List Value).toArray below meth c H locs 0 0 (MQ below (va_Qi (fun (r : Int32) (u : Int32 × Int32 × Int32 × Int32 × Int32 × Int32 × (Nat → Int32)) => (0 ≤ u.2.1.toInt) ∧ (u.2.1.toInt ≤ u.1.toInt) ∧ (u.1.toInt ≤ (mi 21).toInt) ∧ (0 ≤ u.2.2.1.toInt) ∧ (u.2.2.1.toInt ≤ 4) ∧ (u.2.2.1.toInt ≤ 4 * u.1.toInt - 4 * u.2.1.toInt) ∧ (pathsOK u.2.2.2.2.2.2) ∧ ((u.2.2.1.toInt = 2 → u.2.2.2.1.toInt = 30 → u.2.1.toInt + 3 ≤ u.1.toInt)) ∧ ((0 ≤ (r : Int32).toInt → PD u.2.2.2.2.2.2 (r : Int32).toInt)) ∧ ((r = (-1)) ∨ (0 ≤ r.toInt ∧ r.toInt ≤ 40))) (fun u => QW D cI cJ A ((fun (u : Int32 × Int32 × Int32 × Int32 × Int32 × Int32 × (Nat → Int32)) => (MW cI cJ M mr (upd (upd (upd (upd (upd (upd mi 22 u.1) 23 u.2.1) 24 u.2.2.1) 25 u.2.2.2.1) 38 u.2.2.2.2.1) 39 u.2.2.2.2.2.1) (va_up mf 43 u.2.2.2.2.2.2) mg)) u)) A) ([.ref M] : List Value).toArray s 0 0 A) (F0 m 2 ls []) := by
    intro k
    induction k with
    | zero =>
      intro x_6 x_7 x_8 x_9 x_10 x_11 x_12 g_13 _ _ _ hinv hm
      obtain ⟨hi_13_0, hi_13_1, hi_13_2, hi_13_3, hi_13_4, hi_13_5, hi_13_6, hi_13_7, hi_13_8, hi_13_9, hi_13_10⟩ := hinv
      exact absurd hm (by omega)
    | succ k ih_14 =>
      intro x_6 x_7 x_8 x_9 x_10 x_11 x_12 g_13 H locs ls hinv hm hw15 hl16
      obtain ⟨hi_13_0, hi_13_1, hi_13_2, hi_13_3, hi_13_4, hi_13_5, hi_13_6, hi_13_7, hi_13_8, hi_13_9, hi_13_10⟩ := hinv
      refine lv_aload_n (pc := 2) E.1 E.2.1 dX12_readPaths_2 rfl (lv_at hl16 1 rfl) ?_
      refine lv_bipush (pc := 3) (v := 16) E.1 E.2.1 dX12_readPaths_3 (by decide +kernel) ?_
      refine cm_i (pc := 5) hw15 (rn_M (As := [.int 16]) (rest := []) E hw15 (s_isWord3 l D cI cJ _ M mr (upd (upd (upd (upd (upd (upd mi 22 x_7) 23 x_8) 24 x_9) 25 x_10) 38 x_11) 39 x_12) (va_up mf 43 g_13) mg 16) (gdV q_1694 q_1696 q_59 q_162 q_1697) hdV_X12_isWord ⟨rfl, rfl⟩ ⟨(Nat.le_of_ble_eq_true rfl), (Nat.le_of_ble_eq_true rfl)⟩ ⟨(Nat.le_of_ble_eq_true rfl), (Nat.le_of_ble_eq_true rfl)⟩ 12 rfl rfl rfl rfl hl16.1 rfl (Nat.le_of_ble_eq_true rfl) dX12_readPaths_5) (fun r_18 u_17 H1 locs hp hw19 => ?_)
      generalize H1 = H at hw19 ⊢
      have hw20 : WD D A s.heap (MW cI cJ M mr (upd (upd (upd (upd (upd (upd mi 22 x_7) 23 x_8) 24 x_9) 25 x_10) 38 x_11) 39 x_12) (va_up mf 43 g_13) mg) H locs := hw19
      have hp_21 := hp
      rcases hp_21 with ⟨rfl, ha_22, ha_23⟩ | ⟨rfl, ha_24⟩ | ⟨rfl, ha_25⟩
      · skip
        have ha_22 : x_9.toInt = 2 := ha_22
        have ha_23 : x_10.toInt = (16 : Int32).toInt := ha_23
        rw [show (16 : Int32).toInt = 16 from by decide +kernel] at ha_23
        refine lv_if_eq (pc := 8) (tgt := 51) E.1 E.2.1 dX12_readPaths_8 (by decide) (fun c_26 => absurd c_26 (mneE (a := 1) (b := 0) (by decide +kernel) (by decide +kernel) (by omega))) (fun _ => ?_)
        refine lv_iload_n (pc := 11) E.1 E.2.1 dX12_readPaths_11 rfl (lv_at hl16 0 rfl) ?_
        refine lv_bipush (pc := 12) (v := 40) E.1 E.2.1 dX12_readPaths_12 (by decide +kernel) ?_
        refine lv_icmp_ne (pc := 14) (tgt := 23) E.1 E.2.1 dX12_readPaths_14 (by decide) (fun c_27 => ?_) (fun c_27 => ?_)
        · skip
          have hc_27 := neE (a := x_6.toInt) (b := 40) rfl (by decide +kernel) c_27
          refine lv_aload_n (pc := 23) E.1 E.2.1 dX12_readPaths_23 rfl (lv_at hl16 1 rfl) ?_
          refine cm_v (pc := 24) hw20 (rn_M (As := []) (rest := []) E hw20 (s_reads2 l D cI cJ _ M mr (upd (upd (upd (upd (upd (upd mi 22 x_7) 23 x_8) 24 x_9) 25 x_10) 38 x_11) 39 x_12) (va_up mf 43 g_13) mg (by show 0 ≤ x_7.toInt; omega) (by show x_7.toInt ≤ (mi 21).toInt; omega) (by show (mi 21).toInt ≤ 400; omega) (by show ((mf 26) 153).toInt = 32; omega) (show (∀ j : Nat, j < 154 → (mf 26) j = w0 j) from lf_words)) (gdV q_1666 q_1668 q_52 q_162 q_1669) hdV_X12_reads ⟨rfl, rfl⟩ ⟨(Nat.le_of_ble_eq_true rfl), (Nat.le_of_ble_eq_true rfl)⟩ ⟨(Nat.le_of_ble_eq_true rfl), (Nat.le_of_ble_eq_true rfl)⟩ 12 rfl rfl rfl rfl hl16.1 rfl (Nat.le_of_ble_eq_true rfl) dX12_readPaths_24) (fun u_28 H1 locs hp hw30 => ?_)
          obtain ⟨nspot_31, nfrom_32, ntoken_33, nvalue_34⟩ := u_28
          generalize H1 = H at hw30 ⊢
          have hw35 : WD D A s.heap (MW cI cJ M mr (upd (upd (upd (upd (upd (upd mi 22 nspot_31) 23 nfrom_32) 24 ntoken_33) 25 nvalue_34) 38 x_11) 39 x_12) (va_up mf 43 g_13) mg) H locs := hw30
          obtain ⟨hp_36, hp_37, hp_38, hp_39, hp_40, hp_41, hp_42, hp_43⟩ := hp
          have hp_36 : 0 ≤ nfrom_32.toInt := hp_36
          have hp_37 : nfrom_32.toInt ≤ nspot_31.toInt := hp_37
          have hp_38 : nspot_31.toInt ≤ (mi 21).toInt := hp_38
          have hp_39 : 0 ≤ ntoken_33.toInt := hp_39
          have hp_40 : ntoken_33.toInt ≤ 4 := hp_40
          have hp_41 : ntoken_33.toInt ≤ 4 * nspot_31.toInt - 4 * nfrom_32.toInt := hp_41
          have hp_42 : x_7.toInt ≤ nfrom_32.toInt := hp_42
          have hp_43 : (ntoken_33.toInt = 2 → nvalue_34.toInt = 30 → nfrom_32.toInt + 3 ≤ nspot_31.toInt) := hp_43
          refine lv_aload_n (pc := 27) E.1 E.2.1 dX12_readPaths_27 rfl (lv_at hl16 1 rfl) ?_
          refine lv_sipush (pc := 28) (v := 160) E.1 E.2.1 dX12_readPaths_28 (by decide +kernel) ?_
          refine lv_iconst (pc := 31) (v := 4) E.1 E.2.1 dX12_readPaths_31 (by decide +kernel) ?_
          refine lv_iload_n (pc := 32) E.1 E.2.1 dX12_readPaths_32 rfl (lv_at hl16 0 rfl) ?_
          refine lv_imul (pc := 33) E.1 E.2.1 dX12_readPaths_33 ?_
          refine lv_topi (fun v_44 ev_44 => ?_)
          have hv_44 : v_44.toInt = 4 * x_6.toInt := by rw [ev_44]; exact mulE (by decide +kernel) rfl (by omega)
          refine lv_iadd (pc := 34) E.1 E.2.1 dX12_readPaths_34 ?_
          refine lv_topi (fun v_45 ev_45 => ?_)
          have hv_45 : v_45.toInt = 160 + v_44.toInt := by rw [ev_45]; exact addE (by decide +kernel) rfl (by omega)
          refine cm_i (pc := 35) hw35 (rn_M (As := [.int v_45]) (rest := []) E hw35 (s_readPath l D cI cJ _ M mr (upd (upd (upd (upd (upd (upd mi 22 nspot_31) 23 nfrom_32) 24 ntoken_33) 25 nvalue_34) 38 x_11) 39 x_12) (va_up mf 43 g_13) mg v_45 (by show 0 ≤ nfrom_32.toInt; omega) (by show nfrom_32.toInt ≤ nspot_31.toInt; omega) (by show nspot_31.toInt ≤ (mi 21).toInt; omega) (by show (mi 21).toInt ≤ 400; omega) (by show 0 ≤ ntoken_33.toInt; omega) (by show ntoken_33.toInt ≤ 4; omega) (by show ntoken_33.toInt ≤ 4 * nspot_31.toInt - 4 * nfrom_32.toInt; omega) (by show ((mf 26) 153).toInt = 32; omega) (by show 0 ≤ (mi 6).toInt ∧ (mi 6).toInt ≤ 10; omega) (by show 160 ≤ v_45.toInt ∧ v_45.toInt ≤ 316; omega) hi_13_8 (show (∀ j : Nat, j < 154 → (mf 26) j = w0 j) from lf_words) (show (ntoken_33.toInt = 2 → nvalue_34.toInt = 30 → nfrom_32.toInt + 3 ≤ nspot_31.toInt) from hp_43)) (gdV q_1702 q_1704 q_61 q_162 q_1705) hdV_X12_readPath ⟨rfl, rfl⟩ ⟨(Nat.le_of_ble_eq_true rfl), (Nat.le_of_ble_eq_true rfl)⟩ ⟨(Nat.le_of_ble_eq_true rfl), (Nat.le_of_ble_eq_true rfl)⟩ 12 rfl rfl rfl rfl hl16.1 rfl (Nat.le_of_ble_eq_true rfl) dX12_readPaths_35) (fun r_47 u_46 H1 locs hp hw48 => ?_)
          obtain ⟨nspot_49, nfrom_50, ntoken_51, nvalue_52, nreadFault_53, nreadPlace_54, gpaths_55⟩ := u_46
          generalize H1 = H at hw48 ⊢
          have hw56 : WD D A s.heap (MW cI cJ M mr (upd (upd (upd (upd (upd (upd mi 22 nspot_49) 23 nfrom_50) 24 ntoken_51) 25 nvalue_52) 38 nreadFault_53) 39 nreadPlace_54) (va_up mf 43 gpaths_55) mg) H locs := hw48
          obtain ⟨hp_57, hp_58, hp_59, hp_60, hp_61, hp_62, hp_63, hp_64, hp_65, hp_66⟩ := hp
          have hp_57 : 0 ≤ nfrom_50.toInt := hp_57
          have hp_58 : nfrom_50.toInt ≤ nspot_49.toInt := hp_58
          have hp_59 : nspot_49.toInt ≤ (mi 21).toInt := hp_59
          have hp_60 : 0 ≤ ntoken_51.toInt := hp_60
          have hp_61 : ntoken_51.toInt ≤ 4 := hp_61
          have hp_62 : ntoken_51.toInt ≤ 4 * nspot_49.toInt - 4 * nfrom_50.toInt := hp_62
          have hp_64 : (ntoken_51.toInt = 2 → nvalue_52.toInt = 30 → nfrom_50.toInt + 3 ≤ nspot_49.toInt) := hp_64
          have hp_65 : r_47 = 0 → PT g_13 gpaths_55 (v_45).toNatClampNeg := hp_65
          rcases hp_66 with rfl | ⟨rfl, ha_67⟩
          · skip
            refine lv_iconst (pc := 38) (v := (-1)) E.1 E.2.1 dX12_readPaths_38 (by decide +kernel) ?_
            refine lv_icmp_ne (pc := 39) (tgt := 44) E.1 E.2.1 dX12_readPaths_39 (by decide) (fun c_68 => absurd (meqE (a := (-1)) (b := (-1)) (by decide +kernel) (by decide +kernel) (by omega)) c_68) (fun _ => ?_)
            refine lv_iconst (pc := 42) (v := (-1)) E.1 E.2.1 dX12_readPaths_42 (by decide +kernel) ?_
            exact em_i (w1 := (fun (u : Int32 × Int32 × Int32 × Int32 × Int32 × Int32 × (Nat → Int32)) => (MW cI cJ M mr (upd (upd (upd (upd (upd (upd mi 22 u.1) 23 u.2.1) 24 u.2.2.1) 25 u.2.2.2.1) 38 u.2.2.2.2.1) 39 u.2.2.2.2.2.1) (va_up mf 43 u.2.2.2.2.2.2) mg))) E hr hlk (nspot_49, nfrom_50, ntoken_51, nvalue_52, nreadFault_53, nreadPlace_54, gpaths_55) hw56 ⟨(by show 0 ≤ nfrom_50.toInt; have k_0 : ((-1) : Int32).toInt = -1 := (by decide +kernel); omega), (by show nfrom_50.toInt ≤ nspot_49.toInt; have k_0 : ((-1) : Int32).toInt = -1 := (by decide +kernel); omega), (by show nspot_49.toInt ≤ (mi 21).toInt; have k_0 : ((-1) : Int32).toInt = -1 := (by decide +kernel); omega), (by show 0 ≤ ntoken_51.toInt; have k_0 : ((-1) : Int32).toInt = -1 := (by decide +kernel); omega), (by show ntoken_51.toInt ≤ 4; have k_0 : ((-1) : Int32).toInt = -1 := (by decide +kernel); omega), (by show ntoken_51.toInt ≤ 4 * nspot_49.toInt - 4 * nfrom_50.toInt; have k_0 : ((-1) : Int32).toInt = -1 := (by decide +kernel); omega), hp_63, hp_64, (show (0 ≤ ((-1) : Int32).toInt → PD gpaths_55 ((-1) : Int32).toInt) from (fun h => absurd h (by decide +kernel))), (Or.inl rfl)⟩ (Nat.le_of_ble_eq_true rfl) (Nat.le_of_ble_eq_true rfl) dX12_readPaths_43
          · skip
            have hp_65 := hp_65 rfl
            have ha_67 : nfrom_32.toInt + 1 ≤ nfrom_50.toInt := ha_67
            refine lv_iconst (pc := 38) (v := (-1)) E.1 E.2.1 dX12_readPaths_38 (by decide +kernel) ?_
            refine lv_icmp_ne (pc := 39) (tgt := 44) E.1 E.2.1 dX12_readPaths_39 (by decide) (fun _ => ?_) (fun c_69 => absurd c_69 (mneE (a := 0) (b := (-1)) (by decide +kernel) (by decide +kernel) (by omega)))
            refine lv_iload_n (pc := 44) E.1 E.2.1 dX12_readPaths_44 rfl (lv_at hl16 0 rfl) ?_
            refine lv_iconst (pc := 45) (v := 1) E.1 E.2.1 dX12_readPaths_45 (by decide +kernel) ?_
            refine lv_iadd (pc := 46) E.1 E.2.1 dX12_readPaths_46 ?_
            refine lv_topi (fun v_70 ev_70 => ?_)
            have hv_70 : v_70.toInt = x_6.toInt + 1 := by rw [ev_70]; exact addE rfl (by decide +kernel) (by omega)
            refine lv_istore_n (pc := 47) (lv' := [(1, .int v_70), (0, .ref M)]) E.1 E.2.1 dX12_readPaths_47 rfl hl16 (by decide) rfl (fun ls hl71 => ?_)
            refine lv_goto (pc := 48) (tgt := 2) E.1 E.2.1 dX12_readPaths_48 (by decide) ?_
            exact ih_14 v_70 nspot_49 nfrom_50 ntoken_51 nvalue_52 nreadFault_53 nreadPlace_54 gpaths_55 _ _ _ ⟨(by show 0 ≤ nfrom_50.toInt; omega), (by show nfrom_50.toInt ≤ nspot_49.toInt; omega), (by show nspot_49.toInt ≤ (mi 21).toInt; omega), (by show 0 ≤ ntoken_51.toInt; omega), (by show ntoken_51.toInt ≤ 4; omega), (by show ntoken_51.toInt ≤ 4 * nspot_49.toInt - 4 * nfrom_50.toInt; omega), (by show 0 ≤ v_70.toInt; omega), (by show v_70.toInt ≤ 40; omega), hp_63, (PD_step hi_13_9 hp_65 (by have q := idxI (x := v_45) (by omega); omega) (by omega)), (show (ntoken_51.toInt = 2 → nvalue_52.toInt = 30 → nfrom_50.toInt + 3 ≤ nspot_49.toInt) from hp_64)⟩ (by omega) hw56 (lv_sub hl71 [0, 1] rfl)
        · skip
          have hc_27 := eqE (a := x_6.toInt) (b := 40) rfl (by decide +kernel) c_27
          refine lv_aload_n (pc := 17) E.1 E.2.1 dX12_readPaths_17 rfl (lv_at hl16 1 rfl) ?_
          refine lv_iconst (pc := 18) (v := 3) E.1 E.2.1 dX12_readPaths_18 (by decide +kernel) ?_
          refine cm_i (pc := 19) hw20 (rn_M (As := [.int 3]) (rest := []) E hw20 (s_errs2 l D cI cJ _ M mr (upd (upd (upd (upd (upd (upd mi 22 x_7) 23 x_8) 24 x_9) 25 x_10) 38 x_11) 39 x_12) (va_up mf 43 g_13) mg 3) (gdV q_1698 q_1700 q_60 q_162 q_1701) hdV_X12_errs ⟨rfl, rfl⟩ ⟨(Nat.le_of_ble_eq_true rfl), (Nat.le_of_ble_eq_true rfl)⟩ ⟨(Nat.le_of_ble_eq_true rfl), (Nat.le_of_ble_eq_true rfl)⟩ 12 rfl rfl rfl rfl hl16.1 rfl (Nat.le_of_ble_eq_true rfl) dX12_readPaths_19) (fun r_73 u_72 H1 locs hp hw74 => ?_)
          obtain ⟨nreadFault_75, nreadPlace_76⟩ := u_72
          generalize H1 = H at hw74 ⊢
          have hw77 : WD D A s.heap (MW cI cJ M mr (upd (upd (upd (upd (upd (upd mi 22 x_7) 23 x_8) 24 x_9) 25 x_10) 38 nreadFault_75) 39 nreadPlace_76) (va_up mf 43 g_13) mg) H locs := hw74
          have hp_78 := hp
          rcases hp_78 with rfl
          · skip
            exact em_i (w1 := (fun (u : Int32 × Int32 × Int32 × Int32 × Int32 × Int32 × (Nat → Int32)) => (MW cI cJ M mr (upd (upd (upd (upd (upd (upd mi 22 u.1) 23 u.2.1) 24 u.2.2.1) 25 u.2.2.2.1) 38 u.2.2.2.2.1) 39 u.2.2.2.2.2.1) (va_up mf 43 u.2.2.2.2.2.2) mg))) E hr hlk (x_7, x_8, x_9, x_10, nreadFault_75, nreadPlace_76, g_13) hw77 ⟨(by show 0 ≤ x_8.toInt; have k_0 : ((-1) : Int32).toInt = -1 := (by decide +kernel); omega), (by show x_8.toInt ≤ x_7.toInt; have k_0 : ((-1) : Int32).toInt = -1 := (by decide +kernel); omega), (by show x_7.toInt ≤ (mi 21).toInt; have k_0 : ((-1) : Int32).toInt = -1 := (by decide +kernel); omega), (by show 0 ≤ x_9.toInt; have k_0 : ((-1) : Int32).toInt = -1 := (by decide +kernel); omega), (by show x_9.toInt ≤ 4; have k_0 : ((-1) : Int32).toInt = -1 := (by decide +kernel); omega), (by show x_9.toInt ≤ 4 * x_7.toInt - 4 * x_8.toInt; have k_0 : ((-1) : Int32).toInt = -1 := (by decide +kernel); omega), hi_13_8, hi_13_10, (show (0 ≤ ((-1) : Int32).toInt → PD g_13 ((-1) : Int32).toInt) from (fun h => absurd h (by decide +kernel))), (Or.inl rfl)⟩ (Nat.le_of_ble_eq_true rfl) (Nat.le_of_ble_eq_true rfl) dX12_readPaths_22
      · skip
        have ha_24 : ¬ x_9.toInt = 2 := ha_24
        refine lv_if_eq (pc := 8) (tgt := 51) E.1 E.2.1 dX12_readPaths_8 (by decide) (fun _ => ?_) (fun c_79 => absurd (meqE (a := 0) (b := 0) (by decide +kernel) (by decide +kernel) (by omega)) c_79)
        refine lv_aload_n (pc := 51) E.1 E.2.1 dX12_readPaths_51 rfl (lv_at hl16 1 rfl) ?_
        refine x_get (pc := 52) (T := TX12) (N := 70) (ci := 12) (v := .int x_9) E hw20 inX12 0 24 q_1423 rfl rfl (by decide) rfl rfl dX12_readPaths_52 ?_
        refine lv_if_ne (pc := 55) (tgt := 62) E.1 E.2.1 dX12_readPaths_55 (by decide) (fun c_80 => ?_) (fun c_80 => ?_)
        · skip
          have hc_80 := neE (a := x_9.toInt) (b := 0) rfl (by decide +kernel) c_80
          refine lv_aload_n (pc := 62) E.1 E.2.1 dX12_readPaths_62 rfl (lv_at hl16 1 rfl) ?_
          refine lv_iconst (pc := 63) (v := 1) E.1 E.2.1 dX12_readPaths_63 (by decide +kernel) ?_
          refine cm_i (pc := 64) hw20 (rn_M (As := [.int 1]) (rest := []) E hw20 (s_errs2 l D cI cJ _ M mr (upd (upd (upd (upd (upd (upd mi 22 x_7) 23 x_8) 24 x_9) 25 x_10) 38 x_11) 39 x_12) (va_up mf 43 g_13) mg 1) (gdV q_1698 q_1700 q_60 q_162 q_1701) hdV_X12_errs ⟨rfl, rfl⟩ ⟨(Nat.le_of_ble_eq_true rfl), (Nat.le_of_ble_eq_true rfl)⟩ ⟨(Nat.le_of_ble_eq_true rfl), (Nat.le_of_ble_eq_true rfl)⟩ 12 rfl rfl rfl rfl hl16.1 rfl (Nat.le_of_ble_eq_true rfl) dX12_readPaths_64) (fun r_82 u_81 H1 locs hp hw83 => ?_)
          obtain ⟨nreadFault_84, nreadPlace_85⟩ := u_81
          generalize H1 = H at hw83 ⊢
          have hw86 : WD D A s.heap (MW cI cJ M mr (upd (upd (upd (upd (upd (upd mi 22 x_7) 23 x_8) 24 x_9) 25 x_10) 38 nreadFault_84) 39 nreadPlace_85) (va_up mf 43 g_13) mg) H locs := hw83
          have hp_87 := hp
          rcases hp_87 with rfl
          · skip
            exact em_i (w1 := (fun (u : Int32 × Int32 × Int32 × Int32 × Int32 × Int32 × (Nat → Int32)) => (MW cI cJ M mr (upd (upd (upd (upd (upd (upd mi 22 u.1) 23 u.2.1) 24 u.2.2.1) 25 u.2.2.2.1) 38 u.2.2.2.2.1) 39 u.2.2.2.2.2.1) (va_up mf 43 u.2.2.2.2.2.2) mg))) E hr hlk (x_7, x_8, x_9, x_10, nreadFault_84, nreadPlace_85, g_13) hw86 ⟨(by show 0 ≤ x_8.toInt; have k_0 : ((-1) : Int32).toInt = -1 := (by decide +kernel); omega), (by show x_8.toInt ≤ x_7.toInt; have k_0 : ((-1) : Int32).toInt = -1 := (by decide +kernel); omega), (by show x_7.toInt ≤ (mi 21).toInt; have k_0 : ((-1) : Int32).toInt = -1 := (by decide +kernel); omega), (by show 0 ≤ x_9.toInt; have k_0 : ((-1) : Int32).toInt = -1 := (by decide +kernel); omega), (by show x_9.toInt ≤ 4; have k_0 : ((-1) : Int32).toInt = -1 := (by decide +kernel); omega), (by show x_9.toInt ≤ 4 * x_7.toInt - 4 * x_8.toInt; have k_0 : ((-1) : Int32).toInt = -1 := (by decide +kernel); omega), hi_13_8, hi_13_10, (show (0 ≤ ((-1) : Int32).toInt → PD g_13 ((-1) : Int32).toInt) from (fun h => absurd h (by decide +kernel))), (Or.inl rfl)⟩ (Nat.le_of_ble_eq_true rfl) (Nat.le_of_ble_eq_true rfl) dX12_readPaths_67
        · skip
          have hc_80 := eqE (a := x_9.toInt) (b := 0) rfl (by decide +kernel) c_80
          refine lv_iload_n (pc := 58) E.1 E.2.1 dX12_readPaths_58 rfl (lv_at hl16 0 rfl) ?_
          refine lv_goto (pc := 59) (tgt := 67) E.1 E.2.1 dX12_readPaths_59 (by decide) ?_
          exact em_i (w1 := (fun (u : Int32 × Int32 × Int32 × Int32 × Int32 × Int32 × (Nat → Int32)) => (MW cI cJ M mr (upd (upd (upd (upd (upd (upd mi 22 u.1) 23 u.2.1) 24 u.2.2.1) 25 u.2.2.2.1) 38 u.2.2.2.2.1) 39 u.2.2.2.2.2.1) (va_up mf 43 u.2.2.2.2.2.2) mg))) E hr hlk (x_7, x_8, x_9, x_10, x_11, x_12, g_13) hw20 ⟨(by show 0 ≤ x_8.toInt; omega), (by show x_8.toInt ≤ x_7.toInt; omega), (by show x_7.toInt ≤ (mi 21).toInt; omega), (by show 0 ≤ x_9.toInt; omega), (by show x_9.toInt ≤ 4; omega), (by show x_9.toInt ≤ 4 * x_7.toInt - 4 * x_8.toInt; omega), hi_13_8, hi_13_10, (show (0 ≤ (x_6 : Int32).toInt → PD g_13 (x_6 : Int32).toInt) from (fun _ => hi_13_9)), (Or.inr (⟨(by show 0 ≤ x_6.toInt; omega), (by show x_6.toInt ≤ 40; omega)⟩))⟩ (Nat.le_of_ble_eq_true rfl) (Nat.le_of_ble_eq_true rfl) dX12_readPaths_67
      · skip
        have ha_25 : ¬ x_10.toInt = (16 : Int32).toInt := ha_25
        rw [show (16 : Int32).toInt = 16 from by decide +kernel] at ha_25
        refine lv_if_eq (pc := 8) (tgt := 51) E.1 E.2.1 dX12_readPaths_8 (by decide) (fun _ => ?_) (fun c_88 => absurd (meqE (a := 0) (b := 0) (by decide +kernel) (by decide +kernel) (by omega)) c_88)
        refine lv_aload_n (pc := 51) E.1 E.2.1 dX12_readPaths_51 rfl (lv_at hl16 1 rfl) ?_
        refine x_get (pc := 52) (T := TX12) (N := 70) (ci := 12) (v := .int x_9) E hw20 inX12 0 24 q_1423 rfl rfl (by decide) rfl rfl dX12_readPaths_52 ?_
        refine lv_if_ne (pc := 55) (tgt := 62) E.1 E.2.1 dX12_readPaths_55 (by decide) (fun c_89 => ?_) (fun c_89 => ?_)
        · skip
          have hc_89 := neE (a := x_9.toInt) (b := 0) rfl (by decide +kernel) c_89
          refine lv_aload_n (pc := 62) E.1 E.2.1 dX12_readPaths_62 rfl (lv_at hl16 1 rfl) ?_
          refine lv_iconst (pc := 63) (v := 1) E.1 E.2.1 dX12_readPaths_63 (by decide +kernel) ?_
          refine cm_i (pc := 64) hw20 (rn_M (As := [.int 1]) (rest := []) E hw20 (s_errs2 l D cI cJ _ M mr (upd (upd (upd (upd (upd (upd mi 22 x_7) 23 x_8) 24 x_9) 25 x_10) 38 x_11) 39 x_12) (va_up mf 43 g_13) mg 1) (gdV q_1698 q_1700 q_60 q_162 q_1701) hdV_X12_errs ⟨rfl, rfl⟩ ⟨(Nat.le_of_ble_eq_true rfl), (Nat.le_of_ble_eq_true rfl)⟩ ⟨(Nat.le_of_ble_eq_true rfl), (Nat.le_of_ble_eq_true rfl)⟩ 12 rfl rfl rfl rfl hl16.1 rfl (Nat.le_of_ble_eq_true rfl) dX12_readPaths_64) (fun r_91 u_90 H1 locs hp hw92 => ?_)
          obtain ⟨nreadFault_93, nreadPlace_94⟩ := u_90
          generalize H1 = H at hw92 ⊢
          have hw95 : WD D A s.heap (MW cI cJ M mr (upd (upd (upd (upd (upd (upd mi 22 x_7) 23 x_8) 24 x_9) 25 x_10) 38 nreadFault_93) 39 nreadPlace_94) (va_up mf 43 g_13) mg) H locs := hw92
          have hp_96 := hp
          rcases hp_96 with rfl
          · skip
            exact em_i (w1 := (fun (u : Int32 × Int32 × Int32 × Int32 × Int32 × Int32 × (Nat → Int32)) => (MW cI cJ M mr (upd (upd (upd (upd (upd (upd mi 22 u.1) 23 u.2.1) 24 u.2.2.1) 25 u.2.2.2.1) 38 u.2.2.2.2.1) 39 u.2.2.2.2.2.1) (va_up mf 43 u.2.2.2.2.2.2) mg))) E hr hlk (x_7, x_8, x_9, x_10, nreadFault_93, nreadPlace_94, g_13) hw95 ⟨(by show 0 ≤ x_8.toInt; have k_0 : ((-1) : Int32).toInt = -1 := (by decide +kernel); omega), (by show x_8.toInt ≤ x_7.toInt; have k_0 : ((-1) : Int32).toInt = -1 := (by decide +kernel); omega), (by show x_7.toInt ≤ (mi 21).toInt; have k_0 : ((-1) : Int32).toInt = -1 := (by decide +kernel); omega), (by show 0 ≤ x_9.toInt; have k_0 : ((-1) : Int32).toInt = -1 := (by decide +kernel); omega), (by show x_9.toInt ≤ 4; have k_0 : ((-1) : Int32).toInt = -1 := (by decide +kernel); omega), (by show x_9.toInt ≤ 4 * x_7.toInt - 4 * x_8.toInt; have k_0 : ((-1) : Int32).toInt = -1 := (by decide +kernel); omega), hi_13_8, hi_13_10, (show (0 ≤ ((-1) : Int32).toInt → PD g_13 ((-1) : Int32).toInt) from (fun h => absurd h (by decide +kernel))), (Or.inl rfl)⟩ (Nat.le_of_ble_eq_true rfl) (Nat.le_of_ble_eq_true rfl) dX12_readPaths_67
        · skip
          have hc_89 := eqE (a := x_9.toInt) (b := 0) rfl (by decide +kernel) c_89
          refine lv_iload_n (pc := 58) E.1 E.2.1 dX12_readPaths_58 rfl (lv_at hl16 0 rfl) ?_
          refine lv_goto (pc := 59) (tgt := 67) E.1 E.2.1 dX12_readPaths_59 (by decide) ?_
          exact em_i (w1 := (fun (u : Int32 × Int32 × Int32 × Int32 × Int32 × Int32 × (Nat → Int32)) => (MW cI cJ M mr (upd (upd (upd (upd (upd (upd mi 22 u.1) 23 u.2.1) 24 u.2.2.1) 25 u.2.2.2.1) 38 u.2.2.2.2.1) 39 u.2.2.2.2.2.1) (va_up mf 43 u.2.2.2.2.2.2) mg))) E hr hlk (x_7, x_8, x_9, x_10, x_11, x_12, g_13) hw20 ⟨(by show 0 ≤ x_8.toInt; omega), (by show x_8.toInt ≤ x_7.toInt; omega), (by show x_7.toInt ≤ (mi 21).toInt; omega), (by show 0 ≤ x_9.toInt; omega), (by show x_9.toInt ≤ 4; omega), (by show x_9.toInt ≤ 4 * x_7.toInt - 4 * x_8.toInt; omega), hi_13_8, hi_13_10, (show (0 ≤ (x_6 : Int32).toInt → PD g_13 (x_6 : Int32).toInt) from (fun _ => hi_13_9)), (Or.inr (⟨(by show 0 ≤ x_6.toInt; omega), (by show x_6.toInt ≤ 40; omega)⟩))⟩ (Nat.le_of_ble_eq_true rfl) (Nat.le_of_ble_eq_true rfl) dX12_readPaths_67
  exact loop_5 (Int.toNat ((mi 21).toInt - (mi 23).toInt) + 1) 0 (mi 22) (mi 23) (mi 24) (mi 25) (mi 38) (mi 39) (mf 43) _ _ _ ⟨(by show 0 ≤ (mi 23).toInt; omega), (by show (mi 23).toInt ≤ (mi 22).toInt; omega), (by show (mi 22).toInt ≤ (mi 21).toInt; omega), (by show 0 ≤ (mi 24).toInt; omega), (by show (mi 24).toInt ≤ 4; omega), (by show (mi 24).toInt ≤ 4 * (mi 22).toInt - 4 * (mi 23).toInt; omega), (by show 0 ≤ (0 : Int32).toInt; have k_0 : (0 : Int32).toInt = 0 := (by decide +kernel); omega), (by show (0 : Int32).toInt ≤ 40; have k_0 : (0 : Int32).toInt = 0 := (by decide +kernel); omega), a_paths, (fun i hi => absurd hi (by have k9 : (0 : Int32).toInt = 0 := (by decide +kernel); omega)), (show ((mi 24).toInt = 2 → (mi 25).toInt = 30 → (mi 23).toInt + 3 ≤ (mi 22).toInt) from lf_again)⟩ (by have k_0 : (0 : Int32).toInt = 0 := (by decide +kernel); omega) hw1 (lv_sub hl4 [0, 1] rfl)

set_option maxHeartbeats 4000000 in
set_option maxRecDepth 100000 in
theorem s_readNeed (l : Launch) (D : va_G) (cI cJ : ClassId) (sz M : Nat) (mr : Nat → Nat) (mi : Nat → Int32) (mf : Nat → Nat → Int32) (mg : Nat → Nat → Int64) (z_at : Int32) (h0 : 0 ≤ (mi 23).toInt) (h1 : (mi 23).toInt ≤ (mi 22).toInt) (h2 : (mi 22).toInt ≤ (mi 21).toInt) (h3 : (mi 21).toInt ≤ 400) (h4 : 0 ≤ (mi 24).toInt) (h5 : (mi 24).toInt ≤ 4) (h6 : (mi 24).toInt ≤ 4 * (mi 22).toInt - 4 * (mi 23).toInt) (h7 : ((mf 26) 153).toInt = 32) (h8 : 0 ≤ (mi 6).toInt ∧ (mi 6).toInt ≤ 10) (h9 : 50 ≤ z_at.toInt ∧ z_at.toInt ≤ 95) (lf_words : (∀ j : Nat, j < 154 → (mf 26) j = w0 j)) (lf_again : ((mi 24).toInt = 2 → (mi 25).toInt = 30 → (mi 23).toInt + 3 ≤ (mi 22).toInt)) : Met l yX12_readNeed (Cond.code yX12_readNeed cX12_readNeed 2 (some .int) :: GW) ({ frames := 5, cells := 0, slots := 0, locals := 128 } : Room) (va_Pc [.ref M, .int z_at] (PW D cI cJ sz (MW cI cJ M mr mi mf mg) xT)) (va_Qi (fun (r : Int32) (u : Int32 × Int32 × Int32 × Int32 × Int32 × Int32 × (Nat → Int32)) => (0 ≤ u.2.1.toInt) ∧ (u.2.1.toInt ≤ u.1.toInt) ∧ (u.1.toInt ≤ (mi 21).toInt) ∧ (0 ≤ u.2.2.1.toInt) ∧ (u.2.2.1.toInt ≤ 4) ∧ (u.2.2.1.toInt ≤ 4 * u.1.toInt - 4 * u.2.1.toInt) ∧ ((u.2.2.1.toInt = 2 → u.2.2.2.1.toInt = 30 → u.2.1.toInt + 3 ≤ u.1.toInt)) ∧ ((r = (-1)) ∨ (r = 0 ∧ (mi 23).toInt + 1 ≤ u.2.1.toInt))) (fun u => QW D cI cJ (va_A (MW cI cJ M mr mi mf mg) sz) ((fun (u : Int32 × Int32 × Int32 × Int32 × Int32 × Int32 × (Nat → Int32)) => (MW cI cJ M mr (upd (upd (upd (upd (upd (upd mi 22 u.1) 23 u.2.1) 24 u.2.2.1) 25 u.2.2.2.1) 38 u.2.2.2.2.1) 39 u.2.2.2.2.2.1) (va_up mf 45 u.2.2.2.2.2.2) mg)) u)) (va_A (MW cI cJ M mr mi mf mg) sz)) 0 0 (va_A (MW cI cJ M mr mi mf mg) sz) := by
  refine mk_met (y := yX12_readNeed) (bytes := cX12_readNeed) (maxL := 2) (avs := [.ref M, .int z_at]) (WS := (MW cI cJ M mr mi mf mg)) (Qf := fun A => va_Qi (fun (r : Int32) (u : Int32 × Int32 × Int32 × Int32 × Int32 × Int32 × (Nat → Int32)) => (0 ≤ u.2.1.toInt) ∧ (u.2.1.toInt ≤ u.1.toInt) ∧ (u.1.toInt ≤ (mi 21).toInt) ∧ (0 ≤ u.2.2.1.toInt) ∧ (u.2.2.1.toInt ≤ 4) ∧ (u.2.2.1.toInt ≤ 4 * u.1.toInt - 4 * u.2.1.toInt) ∧ ((u.2.2.1.toInt = 2 → u.2.2.2.1.toInt = 30 → u.2.1.toInt + 3 ≤ u.1.toInt)) ∧ ((r = (-1)) ∨ (r = 0 ∧ (mi 23).toInt + 1 ≤ u.2.1.toInt))) (fun u => QW D cI cJ A ((fun (u : Int32 × Int32 × Int32 × Int32 × Int32 × Int32 × (Nat → Int32)) => (MW cI cJ M mr (upd (upd (upd (upd (upd (upd mi 22 u.1) 23 u.2.1) 24 u.2.2.1) 25 u.2.2.2.1) 38 u.2.2.2.2.1) 39 u.2.2.2.2.2.1) (va_up mf 45 u.2.2.2.2.2.2) mg)) u)) A) (by decide) (Nat.le_of_ble_eq_true rfl) ?_
  intro p e s m below meth c A ls E hr hlk hnm hX hw1 hl2
  have hl3 : lv_has ls 2 [(0, .ref M), (1, .int z_at)] := hl2
  refine lv_aload_n (pc := 0) E.1 E.2.1 dX12_readNeed_0 rfl (lv_at hl3 0 rfl) ?_
  refine x_get (pc := 1) (T := TX12) (N := 70) (ci := 12) (v := .int (mi 24)) E hw1 inX12 0 24 q_1423 rfl rfl (by decide) rfl rfl dX12_readNeed_1 ?_
  refine lv_iconst (pc := 4) (v := 2) E.1 E.2.1 dX12_readNeed_4 (by decide +kernel) ?_
  refine lv_icmp_ne (pc := 5) (tgt := 23) E.1 E.2.1 dX12_readNeed_5 (by decide) (fun c_4 => ?_) (fun c_4 => ?_)
  · skip
    have hc_4 := neE (a := (mi 24).toInt) (b := 2) rfl (by decide +kernel) c_4
    refine lv_aload_n (pc := 23) E.1 E.2.1 dX12_readNeed_23 rfl (lv_at hl3 0 rfl) ?_
    refine lv_iconst (pc := 24) (v := 1) E.1 E.2.1 dX12_readNeed_24 (by decide +kernel) ?_
    refine cm_i (pc := 25) hw1 (rn_M (As := [.int 1]) (rest := []) E hw1 (s_errs2 l D cI cJ _ M mr mi mf mg 1) (gdV q_1698 q_1700 q_60 q_162 q_1701) hdV_X12_errs ⟨rfl, rfl⟩ ⟨(Nat.le_of_ble_eq_true rfl), (Nat.le_of_ble_eq_true rfl)⟩ ⟨(Nat.le_of_ble_eq_true rfl), (Nat.le_of_ble_eq_true rfl)⟩ 12 rfl rfl rfl rfl hl3.1 rfl (Nat.le_of_ble_eq_true rfl) dX12_readNeed_25) (fun r_6 u_5 H1 locs hp hw7 => ?_)
    obtain ⟨nreadFault_8, nreadPlace_9⟩ := u_5
    generalize H1 = H at hw7 ⊢
    have hw10 : WD D A s.heap (MW cI cJ M mr (upd (upd mi 38 nreadFault_8) 39 nreadPlace_9) mf mg) H locs := hw7
    have hp_11 := hp
    rcases hp_11 with rfl
    · skip
      exact em_i (w1 := (fun (u : Int32 × Int32 × Int32 × Int32 × Int32 × Int32 × (Nat → Int32)) => (MW cI cJ M mr (upd (upd (upd (upd (upd (upd mi 22 u.1) 23 u.2.1) 24 u.2.2.1) 25 u.2.2.2.1) 38 u.2.2.2.2.1) 39 u.2.2.2.2.2.1) (va_up mf 45 u.2.2.2.2.2.2) mg))) E hr hlk ((mi 22), (mi 23), (mi 24), (mi 25), nreadFault_8, nreadPlace_9, (mf 45)) hw10 ⟨(by show 0 ≤ (mi 23).toInt; have k_0 : ((-1) : Int32).toInt = -1 := (by decide +kernel); omega), (by show (mi 23).toInt ≤ (mi 22).toInt; have k_0 : ((-1) : Int32).toInt = -1 := (by decide +kernel); omega), (by show (mi 22).toInt ≤ (mi 21).toInt; have k_0 : ((-1) : Int32).toInt = -1 := (by decide +kernel); omega), (by show 0 ≤ (mi 24).toInt; have k_0 : ((-1) : Int32).toInt = -1 := (by decide +kernel); omega), (by show (mi 24).toInt ≤ 4; have k_0 : ((-1) : Int32).toInt = -1 := (by decide +kernel); omega), (by show (mi 24).toInt ≤ 4 * (mi 22).toInt - 4 * (mi 23).toInt; have k_0 : ((-1) : Int32).toInt = -1 := (by decide +kernel); omega), lf_again, (Or.inl rfl)⟩ (Nat.le_of_ble_eq_true rfl) (Nat.le_of_ble_eq_true rfl) dX12_readNeed_28
  · skip
    have hc_4 := eqE (a := (mi 24).toInt) (b := 2) rfl (by decide +kernel) c_4
    refine lv_aload_n (pc := 8) E.1 E.2.1 dX12_readNeed_8 rfl (lv_at hl3 0 rfl) ?_
    refine lv_aload_n (pc := 9) E.1 E.2.1 dX12_readNeed_9 rfl (lv_at hl3 0 rfl) ?_
    refine x_get (pc := 10) (T := TX12) (N := 70) (ci := 12) (v := .int (mi 25)) E hw1 inX12 0 25 q_1424 rfl rfl (by decide) rfl rfl dX12_readNeed_10 ?_
    refine lv_bipush (pc := 13) (v := 21) E.1 E.2.1 dX12_readNeed_13 (by decide +kernel) ?_
    refine lv_bipush (pc := 15) (v := 24) E.1 E.2.1 dX12_readNeed_15 (by decide +kernel) ?_
    refine cm_i (pc := 17) hw1 (rn_M (As := [.int (mi 25), .int 21, .int 24]) (rest := []) E hw1 (s_isIn l D cI cJ _ M mr mi mf mg (mi 25) 21 24) (gdV q_1622 q_1624 q_46 q_162 q_1625) hdV_X12_isIn ⟨rfl, rfl⟩ ⟨(Nat.le_of_ble_eq_true rfl), (Nat.le_of_ble_eq_true rfl)⟩ ⟨(Nat.le_of_ble_eq_true rfl), (Nat.le_of_ble_eq_true rfl)⟩ 12 rfl rfl rfl rfl hl3.1 rfl (Nat.le_of_ble_eq_true rfl) dX12_readNeed_17) (fun r_13 u_12 H1 locs hp hw14 => ?_)
    generalize H1 = H at hw14 ⊢
    have hw15 : WD D A s.heap (MW cI cJ M mr mi mf mg) H locs := hw14
    have hp_16 := hp
    rcases hp_16 with ⟨rfl, ha_17⟩ | ⟨rfl, ha_18⟩ | ⟨rfl, ha_19, ha_20⟩
    · skip
      have ha_17 : (mi 25).toInt < (21 : Int32).toInt := ha_17
      rw [show (21 : Int32).toInt = 21 from by decide +kernel] at ha_17
      refine lv_if_ne (pc := 20) (tgt := 29) E.1 E.2.1 dX12_readNeed_20 (by decide) (fun c_21 => absurd (meqE (a := 0) (b := 0) (by decide +kernel) (by decide +kernel) (by omega)) c_21) (fun _ => ?_)
      refine lv_aload_n (pc := 23) E.1 E.2.1 dX12_readNeed_23 rfl (lv_at hl3 0 rfl) ?_
      refine lv_iconst (pc := 24) (v := 1) E.1 E.2.1 dX12_readNeed_24 (by decide +kernel) ?_
      refine cm_i (pc := 25) hw15 (rn_M (As := [.int 1]) (rest := []) E hw15 (s_errs2 l D cI cJ _ M mr mi mf mg 1) (gdV q_1698 q_1700 q_60 q_162 q_1701) hdV_X12_errs ⟨rfl, rfl⟩ ⟨(Nat.le_of_ble_eq_true rfl), (Nat.le_of_ble_eq_true rfl)⟩ ⟨(Nat.le_of_ble_eq_true rfl), (Nat.le_of_ble_eq_true rfl)⟩ 12 rfl rfl rfl rfl hl3.1 rfl (Nat.le_of_ble_eq_true rfl) dX12_readNeed_25) (fun r_23 u_22 H1 locs hp hw24 => ?_)
      obtain ⟨nreadFault_25, nreadPlace_26⟩ := u_22
      generalize H1 = H at hw24 ⊢
      have hw27 : WD D A s.heap (MW cI cJ M mr (upd (upd mi 38 nreadFault_25) 39 nreadPlace_26) mf mg) H locs := hw24
      have hp_28 := hp
      rcases hp_28 with rfl
      · skip
        exact em_i (w1 := (fun (u : Int32 × Int32 × Int32 × Int32 × Int32 × Int32 × (Nat → Int32)) => (MW cI cJ M mr (upd (upd (upd (upd (upd (upd mi 22 u.1) 23 u.2.1) 24 u.2.2.1) 25 u.2.2.2.1) 38 u.2.2.2.2.1) 39 u.2.2.2.2.2.1) (va_up mf 45 u.2.2.2.2.2.2) mg))) E hr hlk ((mi 22), (mi 23), (mi 24), (mi 25), nreadFault_25, nreadPlace_26, (mf 45)) hw27 ⟨(by show 0 ≤ (mi 23).toInt; have k_0 : ((-1) : Int32).toInt = -1 := (by decide +kernel); omega), (by show (mi 23).toInt ≤ (mi 22).toInt; have k_0 : ((-1) : Int32).toInt = -1 := (by decide +kernel); omega), (by show (mi 22).toInt ≤ (mi 21).toInt; have k_0 : ((-1) : Int32).toInt = -1 := (by decide +kernel); omega), (by show 0 ≤ (mi 24).toInt; have k_0 : ((-1) : Int32).toInt = -1 := (by decide +kernel); omega), (by show (mi 24).toInt ≤ 4; have k_0 : ((-1) : Int32).toInt = -1 := (by decide +kernel); omega), (by show (mi 24).toInt ≤ 4 * (mi 22).toInt - 4 * (mi 23).toInt; have k_0 : ((-1) : Int32).toInt = -1 := (by decide +kernel); omega), lf_again, (Or.inl rfl)⟩ (Nat.le_of_ble_eq_true rfl) (Nat.le_of_ble_eq_true rfl) dX12_readNeed_28
    · skip
      have ha_18 : (24 : Int32).toInt < (mi 25).toInt := ha_18
      rw [show (24 : Int32).toInt = 24 from by decide +kernel] at ha_18
      refine lv_if_ne (pc := 20) (tgt := 29) E.1 E.2.1 dX12_readNeed_20 (by decide) (fun c_29 => absurd (meqE (a := 0) (b := 0) (by decide +kernel) (by decide +kernel) (by omega)) c_29) (fun _ => ?_)
      refine lv_aload_n (pc := 23) E.1 E.2.1 dX12_readNeed_23 rfl (lv_at hl3 0 rfl) ?_
      refine lv_iconst (pc := 24) (v := 1) E.1 E.2.1 dX12_readNeed_24 (by decide +kernel) ?_
      refine cm_i (pc := 25) hw15 (rn_M (As := [.int 1]) (rest := []) E hw15 (s_errs2 l D cI cJ _ M mr mi mf mg 1) (gdV q_1698 q_1700 q_60 q_162 q_1701) hdV_X12_errs ⟨rfl, rfl⟩ ⟨(Nat.le_of_ble_eq_true rfl), (Nat.le_of_ble_eq_true rfl)⟩ ⟨(Nat.le_of_ble_eq_true rfl), (Nat.le_of_ble_eq_true rfl)⟩ 12 rfl rfl rfl rfl hl3.1 rfl (Nat.le_of_ble_eq_true rfl) dX12_readNeed_25) (fun r_31 u_30 H1 locs hp hw32 => ?_)
      obtain ⟨nreadFault_33, nreadPlace_34⟩ := u_30
      generalize H1 = H at hw32 ⊢
      have hw35 : WD D A s.heap (MW cI cJ M mr (upd (upd mi 38 nreadFault_33) 39 nreadPlace_34) mf mg) H locs := hw32
      have hp_36 := hp
      rcases hp_36 with rfl
      · skip
        exact em_i (w1 := (fun (u : Int32 × Int32 × Int32 × Int32 × Int32 × Int32 × (Nat → Int32)) => (MW cI cJ M mr (upd (upd (upd (upd (upd (upd mi 22 u.1) 23 u.2.1) 24 u.2.2.1) 25 u.2.2.2.1) 38 u.2.2.2.2.1) 39 u.2.2.2.2.2.1) (va_up mf 45 u.2.2.2.2.2.2) mg))) E hr hlk ((mi 22), (mi 23), (mi 24), (mi 25), nreadFault_33, nreadPlace_34, (mf 45)) hw35 ⟨(by show 0 ≤ (mi 23).toInt; have k_0 : ((-1) : Int32).toInt = -1 := (by decide +kernel); omega), (by show (mi 23).toInt ≤ (mi 22).toInt; have k_0 : ((-1) : Int32).toInt = -1 := (by decide +kernel); omega), (by show (mi 22).toInt ≤ (mi 21).toInt; have k_0 : ((-1) : Int32).toInt = -1 := (by decide +kernel); omega), (by show 0 ≤ (mi 24).toInt; have k_0 : ((-1) : Int32).toInt = -1 := (by decide +kernel); omega), (by show (mi 24).toInt ≤ 4; have k_0 : ((-1) : Int32).toInt = -1 := (by decide +kernel); omega), (by show (mi 24).toInt ≤ 4 * (mi 22).toInt - 4 * (mi 23).toInt; have k_0 : ((-1) : Int32).toInt = -1 := (by decide +kernel); omega), lf_again, (Or.inl rfl)⟩ (Nat.le_of_ble_eq_true rfl) (Nat.le_of_ble_eq_true rfl) dX12_readNeed_28
    · skip
      have ha_19 : (21 : Int32).toInt ≤ (mi 25).toInt := ha_19
      rw [show (21 : Int32).toInt = 21 from by decide +kernel] at ha_19
      have ha_20 : (mi 25).toInt ≤ (24 : Int32).toInt := ha_20
      rw [show (24 : Int32).toInt = 24 from by decide +kernel] at ha_20
      refine lv_if_ne (pc := 20) (tgt := 29) E.1 E.2.1 dX12_readNeed_20 (by decide) (fun _ => ?_) (fun c_37 => absurd c_37 (mneE (a := 1) (b := 0) (by decide +kernel) (by decide +kernel) (by omega)))
      refine lv_aload_n (pc := 29) E.1 E.2.1 dX12_readNeed_29 rfl (lv_at hl3 0 rfl) ?_
      refine x_get (pc := 30) (T := TX12) (N := 70) (ci := 12) (v := .ref (mr 45)) E hw15 inX12 0 45 q_1444 rfl rfl (by decide) rfl rfl dX12_readNeed_30 ?_
      refine lv_iload_n (pc := 33) E.1 E.2.1 dX12_readNeed_33 rfl (lv_at hl3 1 rfl) ?_
      refine lv_iconst (pc := 34) (v := 0) E.1 E.2.1 dX12_readNeed_34 (by decide +kernel) ?_
      refine lv_iadd (pc := 35) E.1 E.2.1 dX12_readNeed_35 ?_
      refine lv_topi (fun v_38 ev_38 => ?_)
      have hv_38 : v_38.toInt = z_at.toInt + 0 := by rw [ev_38]; exact addE rfl (by decide +kernel) (by omega)
      refine lv_aload_n (pc := 36) E.1 E.2.1 dX12_readNeed_36 rfl (lv_at hl3 0 rfl) ?_
      refine x_get (pc := 37) (T := TX12) (N := 70) (ci := 12) (v := .int (mi 25)) E hw15 inX12 0 25 q_1424 rfl rfl (by decide) rfl rfl dX12_readNeed_37 ?_
      refine lv_bipush (pc := 40) (v := 21) E.1 E.2.1 dX12_readNeed_40 (by decide +kernel) ?_
      refine lv_isub (pc := 42) E.1 E.2.1 dX12_readNeed_42 ?_
      refine lv_topi (fun v_39 ev_39 => ?_)
      have hv_39 : v_39.toInt = (mi 25).toInt - 21 := by rw [ev_39]; exact subE rfl (by decide +kernel) (by omega)
      refine x_iastG (pc := 43) (f := (mf 45)) (wf := fun g => (MW cI cJ M mr mi (va_up mf 45 g) mg)) E hw15 22 rfl (inbE (a := v_38.toInt) rfl (by omega)) (fun _ => rfl) dX12_readNeed_43 (fun g_40 H locs eg_40 hw41 => ?_)
      refine lv_aload_n (pc := 44) E.1 E.2.1 dX12_readNeed_44 rfl (lv_at hl3 0 rfl) ?_
      refine cm_v (pc := 45) hw41 (rn_M (As := []) (rest := []) E hw41 (s_reads2 l D cI cJ _ M mr mi (va_up mf 45 g_40) mg (by show 0 ≤ (mi 22).toInt; omega) (by show (mi 22).toInt ≤ (mi 21).toInt; omega) (by show (mi 21).toInt ≤ 400; omega) (by show ((mf 26) 153).toInt = 32; omega) (show (∀ j : Nat, j < 154 → (mf 26) j = w0 j) from lf_words)) (gdV q_1666 q_1668 q_52 q_162 q_1669) hdV_X12_reads ⟨rfl, rfl⟩ ⟨(Nat.le_of_ble_eq_true rfl), (Nat.le_of_ble_eq_true rfl)⟩ ⟨(Nat.le_of_ble_eq_true rfl), (Nat.le_of_ble_eq_true rfl)⟩ 12 rfl rfl rfl rfl hl3.1 rfl (Nat.le_of_ble_eq_true rfl) dX12_readNeed_45) (fun u_42 H1 locs hp hw44 => ?_)
      obtain ⟨nspot_45, nfrom_46, ntoken_47, nvalue_48⟩ := u_42
      generalize H1 = H at hw44 ⊢
      have hw49 : WD D A s.heap (MW cI cJ M mr (upd (upd (upd (upd mi 22 nspot_45) 23 nfrom_46) 24 ntoken_47) 25 nvalue_48) (va_up mf 45 g_40) mg) H locs := hw44
      obtain ⟨hp_50, hp_51, hp_52, hp_53, hp_54, hp_55, hp_56, hp_57⟩ := hp
      have hp_50 : 0 ≤ nfrom_46.toInt := hp_50
      have hp_51 : nfrom_46.toInt ≤ nspot_45.toInt := hp_51
      have hp_52 : nspot_45.toInt ≤ (mi 21).toInt := hp_52
      have hp_53 : 0 ≤ ntoken_47.toInt := hp_53
      have hp_54 : ntoken_47.toInt ≤ 4 := hp_54
      have hp_55 : ntoken_47.toInt ≤ 4 * nspot_45.toInt - 4 * nfrom_46.toInt := hp_55
      have hp_56 : (mi 22).toInt ≤ nfrom_46.toInt := hp_56
      have hp_57 : (ntoken_47.toInt = 2 → nvalue_48.toInt = 30 → nfrom_46.toInt + 3 ≤ nspot_45.toInt) := hp_57
      refine lv_aload_n (pc := 48) E.1 E.2.1 dX12_readNeed_48 rfl (lv_at hl3 0 rfl) ?_
      refine lv_bipush (pc := 49) (v := 25) E.1 E.2.1 dX12_readNeed_49 (by decide +kernel) ?_
      refine cm_i (pc := 51) hw49 (rn_M (As := [.int 25]) (rest := []) E hw49 (s_readWord l D cI cJ _ M mr (upd (upd (upd (upd mi 22 nspot_45) 23 nfrom_46) 24 ntoken_47) 25 nvalue_48) (va_up mf 45 g_40) mg 25 (by show 0 ≤ nfrom_46.toInt; omega) (by show nfrom_46.toInt ≤ nspot_45.toInt; omega) (by show nspot_45.toInt ≤ (mi 21).toInt; omega) (by show (mi 21).toInt ≤ 400; omega) (by show 0 ≤ ntoken_47.toInt; omega) (by show ntoken_47.toInt ≤ 4; omega) (by show ntoken_47.toInt ≤ 4 * nspot_45.toInt - 4 * nfrom_46.toInt; omega) (by show ((mf 26) 153).toInt = 32; omega) (show (∀ j : Nat, j < 154 → (mf 26) j = w0 j) from lf_words) (show (ntoken_47.toInt = 2 → nvalue_48.toInt = 30 → nfrom_46.toInt + 3 ≤ nspot_45.toInt) from hp_57)) (gdV q_1710 q_1712 q_63 q_162 q_1713) hdV_X12_readWord ⟨rfl, rfl⟩ ⟨(Nat.le_of_ble_eq_true rfl), (Nat.le_of_ble_eq_true rfl)⟩ ⟨(Nat.le_of_ble_eq_true rfl), (Nat.le_of_ble_eq_true rfl)⟩ 12 rfl rfl rfl rfl hl3.1 rfl (Nat.le_of_ble_eq_true rfl) dX12_readNeed_51) (fun r_59 u_58 H1 locs hp hw60 => ?_)
      obtain ⟨nspot_61, nfrom_62, ntoken_63, nvalue_64, nreadFault_65, nreadPlace_66⟩ := u_58
      generalize H1 = H at hw60 ⊢
      have hw67 : WD D A s.heap (MW cI cJ M mr (upd (upd (upd (upd (upd (upd mi 22 nspot_61) 23 nfrom_62) 24 ntoken_63) 25 nvalue_64) 38 nreadFault_65) 39 nreadPlace_66) (va_up mf 45 g_40) mg) H locs := hw60
      obtain ⟨hp_68, hp_69, hp_70, hp_71, hp_72, hp_73, hp_74, hp_75⟩ := hp
      have hp_68 : 0 ≤ nfrom_62.toInt := hp_68
      have hp_69 : nfrom_62.toInt ≤ nspot_61.toInt := hp_69
      have hp_70 : nspot_61.toInt ≤ (mi 21).toInt := hp_70
      have hp_71 : 0 ≤ ntoken_63.toInt := hp_71
      have hp_72 : ntoken_63.toInt ≤ 4 := hp_72
      have hp_73 : ntoken_63.toInt ≤ 4 * nspot_61.toInt - 4 * nfrom_62.toInt := hp_73
      have hp_74 : (ntoken_63.toInt = 2 → nvalue_64.toInt = 30 → nfrom_62.toInt + 3 ≤ nspot_61.toInt) := hp_74
      rcases hp_75 with rfl | ⟨rfl, ha_76⟩
      · skip
        refine lv_iconst (pc := 54) (v := (-1)) E.1 E.2.1 dX12_readNeed_54 (by decide +kernel) ?_
        refine lv_icmp_ne (pc := 55) (tgt := 60) E.1 E.2.1 dX12_readNeed_55 (by decide) (fun c_77 => absurd (meqE (a := (-1)) (b := (-1)) (by decide +kernel) (by decide +kernel) (by omega)) c_77) (fun _ => ?_)
        refine lv_iconst (pc := 58) (v := (-1)) E.1 E.2.1 dX12_readNeed_58 (by decide +kernel) ?_
        exact em_i (w1 := (fun (u : Int32 × Int32 × Int32 × Int32 × Int32 × Int32 × (Nat → Int32)) => (MW cI cJ M mr (upd (upd (upd (upd (upd (upd mi 22 u.1) 23 u.2.1) 24 u.2.2.1) 25 u.2.2.2.1) 38 u.2.2.2.2.1) 39 u.2.2.2.2.2.1) (va_up mf 45 u.2.2.2.2.2.2) mg))) E hr hlk (nspot_61, nfrom_62, ntoken_63, nvalue_64, nreadFault_65, nreadPlace_66, g_40) hw67 ⟨(by show 0 ≤ nfrom_62.toInt; have k_0 : ((-1) : Int32).toInt = -1 := (by decide +kernel); omega), (by show nfrom_62.toInt ≤ nspot_61.toInt; have k_0 : ((-1) : Int32).toInt = -1 := (by decide +kernel); omega), (by show nspot_61.toInt ≤ (mi 21).toInt; have k_0 : ((-1) : Int32).toInt = -1 := (by decide +kernel); omega), (by show 0 ≤ ntoken_63.toInt; have k_0 : ((-1) : Int32).toInt = -1 := (by decide +kernel); omega), (by show ntoken_63.toInt ≤ 4; have k_0 : ((-1) : Int32).toInt = -1 := (by decide +kernel); omega), (by show ntoken_63.toInt ≤ 4 * nspot_61.toInt - 4 * nfrom_62.toInt; have k_0 : ((-1) : Int32).toInt = -1 := (by decide +kernel); omega), hp_74, (Or.inl rfl)⟩ (Nat.le_of_ble_eq_true rfl) (Nat.le_of_ble_eq_true rfl) dX12_readNeed_59
      · skip
        have ha_76 : nfrom_46.toInt + 1 ≤ nfrom_62.toInt := ha_76
        refine lv_iconst (pc := 54) (v := (-1)) E.1 E.2.1 dX12_readNeed_54 (by decide +kernel) ?_
        refine lv_icmp_ne (pc := 55) (tgt := 60) E.1 E.2.1 dX12_readNeed_55 (by decide) (fun _ => ?_) (fun c_78 => absurd c_78 (mneE (a := 0) (b := (-1)) (by decide +kernel) (by decide +kernel) (by omega)))
        refine lv_aload_n (pc := 60) E.1 E.2.1 dX12_readNeed_60 rfl (lv_at hl3 0 rfl) ?_
        refine x_get (pc := 61) (T := TX12) (N := 70) (ci := 12) (v := .ref (mr 45)) E hw67 inX12 0 45 q_1444 rfl rfl (by decide) rfl rfl dX12_readNeed_61 ?_
        refine lv_iload_n (pc := 64) E.1 E.2.1 dX12_readNeed_64 rfl (lv_at hl3 1 rfl) ?_
        refine lv_iconst (pc := 65) (v := 1) E.1 E.2.1 dX12_readNeed_65 (by decide +kernel) ?_
        refine lv_iadd (pc := 66) E.1 E.2.1 dX12_readNeed_66 ?_
        refine lv_topi (fun v_79 ev_79 => ?_)
        have hv_79 : v_79.toInt = z_at.toInt + 1 := by rw [ev_79]; exact addE rfl (by decide +kernel) (by omega)
        refine lv_aload_n (pc := 67) E.1 E.2.1 dX12_readNeed_67 rfl (lv_at hl3 0 rfl) ?_
        refine lv_iconst (pc := 68) (v := 0) E.1 E.2.1 dX12_readNeed_68 (by decide +kernel) ?_
        refine lv_aload_n (pc := 69) E.1 E.2.1 dX12_readNeed_69 rfl (lv_at hl3 0 rfl) ?_
        refine x_get (pc := 70) (T := TX12) (N := 70) (ci := 12) (v := .int (mi 6)) E hw67 inX12 0 6 q_1405 rfl rfl (by decide) rfl rfl dX12_readNeed_70 ?_
        refine lv_iconst (pc := 73) (v := 1) E.1 E.2.1 dX12_readNeed_73 (by decide +kernel) ?_
        refine lv_isub (pc := 74) E.1 E.2.1 dX12_readNeed_74 ?_
        refine lv_topi (fun v_80 ev_80 => ?_)
        have hv_80 : v_80.toInt = (mi 6).toInt - 1 := by rw [ev_80]; exact subE rfl (by decide +kernel) (by omega)
        refine cm_i (pc := 75) hw67 (rn_M (As := [.int 0, .int v_80]) (rest := [.int v_79, .ref (mr 45)]) E hw67 (s_readNumber l D cI cJ _ M mr (upd (upd (upd (upd (upd (upd mi 22 nspot_61) 23 nfrom_62) 24 ntoken_63) 25 nvalue_64) 38 nreadFault_65) 39 nreadPlace_66) (va_up mf 45 g_40) mg 0 v_80 (by show 0 ≤ nfrom_62.toInt; omega) (by show nfrom_62.toInt ≤ nspot_61.toInt; omega) (by show nspot_61.toInt ≤ (mi 21).toInt; omega) (by show (mi 21).toInt ≤ 400; omega) (by show 0 ≤ ntoken_63.toInt; omega) (by show ntoken_63.toInt ≤ 4; omega) (by show ntoken_63.toInt ≤ 4 * nspot_61.toInt - 4 * nfrom_62.toInt; omega) (by show ((mf 26) 153).toInt = 32; omega) (show (∀ j : Nat, j < 154 → (mf 26) j = w0 j) from lf_words) (show (ntoken_63.toInt = 2 → nvalue_64.toInt = 30 → nfrom_62.toInt + 3 ≤ nspot_61.toInt) from hp_74)) (gdV q_1706 q_1708 q_62 q_162 q_1709) hdV_X12_readNumber ⟨rfl, rfl⟩ ⟨(Nat.le_of_ble_eq_true rfl), (Nat.le_of_ble_eq_true rfl)⟩ ⟨(Nat.le_of_ble_eq_true rfl), (Nat.le_of_ble_eq_true rfl)⟩ 12 rfl rfl rfl rfl hl3.1 rfl (Nat.le_of_ble_eq_true rfl) dX12_readNeed_75) (fun r_82 u_81 H1 locs hp hw83 => ?_)
        obtain ⟨nspot_84, nfrom_85, ntoken_86, nvalue_87, nreadFault_88, nreadPlace_89⟩ := u_81
        generalize H1 = H at hw83 ⊢
        have hw90 : WD D A s.heap (MW cI cJ M mr (upd (upd (upd (upd (upd (upd mi 22 nspot_84) 23 nfrom_85) 24 ntoken_86) 25 nvalue_87) 38 nreadFault_88) 39 nreadPlace_89) (va_up mf 45 g_40) mg) H locs := hw83
        obtain ⟨hp_91, hp_92, hp_93, hp_94, hp_95, hp_96, hp_97, hp_98⟩ := hp
        have hp_91 : 0 ≤ nfrom_85.toInt := hp_91
        have hp_92 : nfrom_85.toInt ≤ nspot_84.toInt := hp_92
        have hp_93 : nspot_84.toInt ≤ (mi 21).toInt := hp_93
        have hp_94 : 0 ≤ ntoken_86.toInt := hp_94
        have hp_95 : ntoken_86.toInt ≤ 4 := hp_95
        have hp_96 : ntoken_86.toInt ≤ 4 * nspot_84.toInt - 4 * nfrom_85.toInt := hp_96
        have hp_97 : (ntoken_86.toInt = 2 → nvalue_87.toInt = 30 → nfrom_85.toInt + 3 ≤ nspot_84.toInt) := hp_97
        rcases hp_98 with rfl | ⟨ha_99, ha_100, ha_101⟩
        · skip
          refine x_iastG (pc := 78) (f := g_40) (wf := fun g => (MW cI cJ M mr (upd (upd (upd (upd (upd (upd mi 22 nspot_84) 23 nfrom_85) 24 ntoken_86) 25 nvalue_87) 38 nreadFault_88) 39 nreadPlace_89) (va_up mf 45 g) mg)) E hw90 22 rfl (inbE (a := v_79.toInt) rfl (by omega)) (fun _ => rfl) dX12_readNeed_78 (fun g_102 H locs eg_102 hw103 => ?_)
          refine lv_aload_n (pc := 79) E.1 E.2.1 dX12_readNeed_79 rfl (lv_at hl3 0 rfl) ?_
          refine x_get (pc := 80) (T := TX12) (N := 70) (ci := 12) (v := .ref (mr 45)) E hw103 inX12 0 45 q_1444 rfl rfl (by decide) rfl rfl dX12_readNeed_80 ?_
          refine lv_iload_n (pc := 83) E.1 E.2.1 dX12_readNeed_83 rfl (lv_at hl3 1 rfl) ?_
          refine lv_iconst (pc := 84) (v := 1) E.1 E.2.1 dX12_readNeed_84 (by decide +kernel) ?_
          refine lv_iadd (pc := 85) E.1 E.2.1 dX12_readNeed_85 ?_
          refine lv_topi (fun v_104 ev_104 => ?_)
          have hv_104 : v_104.toInt = z_at.toInt + 1 := by rw [ev_104]; exact addE rfl (by decide +kernel) (by omega)
          refine x_iald (pc := 86) (f := g_102) E hw103 22 rfl (inbE (a := v_104.toInt) rfl (by omega)) dX12_readNeed_86 ?_
          refine lv_topi (fun v_105 ev_105 => ?_)
          have hsv_105 : v_105.toInt = ((-1) : Int32).toInt := by rw [ev_105, eg_102, show v_104.toNatClampNeg = v_79.toNatClampNeg from (by have q_0 := idxI (x := v_104) (by omega); have q_1 := idxI (x := v_79) (by omega); omega), pk_us]
          rw [show ((-1) : Int32).toInt = -1 from by decide +kernel] at hsv_105
          refine lv_iconst (pc := 87) (v := (-1)) E.1 E.2.1 dX12_readNeed_87 (by decide +kernel) ?_
          refine lv_icmp_eq (pc := 88) (tgt := 101) E.1 E.2.1 dX12_readNeed_88 (by decide) (fun _ => ?_) (fun c_106 => absurd (meqE (a := v_105.toInt) (b := (-1)) rfl (by decide +kernel) (by omega)) c_106)
          refine lv_iconst (pc := 101) (v := (-1)) E.1 E.2.1 dX12_readNeed_101 (by decide +kernel) ?_
          exact em_i (w1 := (fun (u : Int32 × Int32 × Int32 × Int32 × Int32 × Int32 × (Nat → Int32)) => (MW cI cJ M mr (upd (upd (upd (upd (upd (upd mi 22 u.1) 23 u.2.1) 24 u.2.2.1) 25 u.2.2.2.1) 38 u.2.2.2.2.1) 39 u.2.2.2.2.2.1) (va_up mf 45 u.2.2.2.2.2.2) mg))) E hr hlk (nspot_84, nfrom_85, ntoken_86, nvalue_87, nreadFault_88, nreadPlace_89, g_102) hw103 ⟨(by show 0 ≤ nfrom_85.toInt; have k_0 : ((-1) : Int32).toInt = -1 := (by decide +kernel); omega), (by show nfrom_85.toInt ≤ nspot_84.toInt; have k_0 : ((-1) : Int32).toInt = -1 := (by decide +kernel); omega), (by show nspot_84.toInt ≤ (mi 21).toInt; have k_0 : ((-1) : Int32).toInt = -1 := (by decide +kernel); omega), (by show 0 ≤ ntoken_86.toInt; have k_0 : ((-1) : Int32).toInt = -1 := (by decide +kernel); omega), (by show ntoken_86.toInt ≤ 4; have k_0 : ((-1) : Int32).toInt = -1 := (by decide +kernel); omega), (by show ntoken_86.toInt ≤ 4 * nspot_84.toInt - 4 * nfrom_85.toInt; have k_0 : ((-1) : Int32).toInt = -1 := (by decide +kernel); omega), hp_97, (Or.inl rfl)⟩ (Nat.le_of_ble_eq_true rfl) (Nat.le_of_ble_eq_true rfl) dX12_readNeed_102
        · skip
          have ha_99 : (0 : Int32).toInt ≤ r_82.toInt := ha_99
          rw [show (0 : Int32).toInt = 0 from by decide +kernel] at ha_99
          have ha_100 : r_82.toInt ≤ v_80.toInt := ha_100
          have ha_101 : nfrom_62.toInt + 1 ≤ nfrom_85.toInt := ha_101
          refine x_iastG (pc := 78) (f := g_40) (wf := fun g => (MW cI cJ M mr (upd (upd (upd (upd (upd (upd mi 22 nspot_84) 23 nfrom_85) 24 ntoken_86) 25 nvalue_87) 38 nreadFault_88) 39 nreadPlace_89) (va_up mf 45 g) mg)) E hw90 22 rfl (inbE (a := v_79.toInt) rfl (by omega)) (fun _ => rfl) dX12_readNeed_78 (fun g_107 H locs eg_107 hw108 => ?_)
          refine lv_aload_n (pc := 79) E.1 E.2.1 dX12_readNeed_79 rfl (lv_at hl3 0 rfl) ?_
          refine x_get (pc := 80) (T := TX12) (N := 70) (ci := 12) (v := .ref (mr 45)) E hw108 inX12 0 45 q_1444 rfl rfl (by decide) rfl rfl dX12_readNeed_80 ?_
          refine lv_iload_n (pc := 83) E.1 E.2.1 dX12_readNeed_83 rfl (lv_at hl3 1 rfl) ?_
          refine lv_iconst (pc := 84) (v := 1) E.1 E.2.1 dX12_readNeed_84 (by decide +kernel) ?_
          refine lv_iadd (pc := 85) E.1 E.2.1 dX12_readNeed_85 ?_
          refine lv_topi (fun v_109 ev_109 => ?_)
          have hv_109 : v_109.toInt = z_at.toInt + 1 := by rw [ev_109]; exact addE rfl (by decide +kernel) (by omega)
          refine x_iald (pc := 86) (f := g_107) E hw108 22 rfl (inbE (a := v_109.toInt) rfl (by omega)) dX12_readNeed_86 ?_
          refine lv_topi (fun v_110 ev_110 => ?_)
          have hsv_110 : v_110.toInt = r_82.toInt := by rw [ev_110, eg_107, show v_109.toNatClampNeg = v_79.toNatClampNeg from (by have q_0 := idxI (x := v_109) (by omega); have q_1 := idxI (x := v_79) (by omega); omega), pk_us]
          refine lv_iconst (pc := 87) (v := (-1)) E.1 E.2.1 dX12_readNeed_87 (by decide +kernel) ?_
          refine lv_icmp_eq (pc := 88) (tgt := 101) E.1 E.2.1 dX12_readNeed_88 (by decide) (fun c_111 => absurd c_111 (mneE (a := v_110.toInt) (b := (-1)) rfl (by decide +kernel) (by omega))) (fun _ => ?_)
          refine lv_aload_n (pc := 91) E.1 E.2.1 dX12_readNeed_91 rfl (lv_at hl3 0 rfl) ?_
          refine lv_bipush (pc := 92) (v := 26) E.1 E.2.1 dX12_readNeed_92 (by decide +kernel) ?_
          refine cm_i (pc := 94) hw108 (rn_M (As := [.int 26]) (rest := []) E hw108 (s_readWord l D cI cJ _ M mr (upd (upd (upd (upd (upd (upd mi 22 nspot_84) 23 nfrom_85) 24 ntoken_86) 25 nvalue_87) 38 nreadFault_88) 39 nreadPlace_89) (va_up mf 45 g_107) mg 26 (by show 0 ≤ nfrom_85.toInt; omega) (by show nfrom_85.toInt ≤ nspot_84.toInt; omega) (by show nspot_84.toInt ≤ (mi 21).toInt; omega) (by show (mi 21).toInt ≤ 400; omega) (by show 0 ≤ ntoken_86.toInt; omega) (by show ntoken_86.toInt ≤ 4; omega) (by show ntoken_86.toInt ≤ 4 * nspot_84.toInt - 4 * nfrom_85.toInt; omega) (by show ((mf 26) 153).toInt = 32; omega) (show (∀ j : Nat, j < 154 → (mf 26) j = w0 j) from lf_words) (show (ntoken_86.toInt = 2 → nvalue_87.toInt = 30 → nfrom_85.toInt + 3 ≤ nspot_84.toInt) from hp_97)) (gdV q_1710 q_1712 q_63 q_162 q_1713) hdV_X12_readWord ⟨rfl, rfl⟩ ⟨(Nat.le_of_ble_eq_true rfl), (Nat.le_of_ble_eq_true rfl)⟩ ⟨(Nat.le_of_ble_eq_true rfl), (Nat.le_of_ble_eq_true rfl)⟩ 12 rfl rfl rfl rfl hl3.1 rfl (Nat.le_of_ble_eq_true rfl) dX12_readNeed_94) (fun r_113 u_112 H1 locs hp hw114 => ?_)
          obtain ⟨nspot_115, nfrom_116, ntoken_117, nvalue_118, nreadFault_119, nreadPlace_120⟩ := u_112
          generalize H1 = H at hw114 ⊢
          have hw121 : WD D A s.heap (MW cI cJ M mr (upd (upd (upd (upd (upd (upd mi 22 nspot_115) 23 nfrom_116) 24 ntoken_117) 25 nvalue_118) 38 nreadFault_119) 39 nreadPlace_120) (va_up mf 45 g_107) mg) H locs := hw114
          obtain ⟨hp_122, hp_123, hp_124, hp_125, hp_126, hp_127, hp_128, hp_129⟩ := hp
          have hp_122 : 0 ≤ nfrom_116.toInt := hp_122
          have hp_123 : nfrom_116.toInt ≤ nspot_115.toInt := hp_123
          have hp_124 : nspot_115.toInt ≤ (mi 21).toInt := hp_124
          have hp_125 : 0 ≤ ntoken_117.toInt := hp_125
          have hp_126 : ntoken_117.toInt ≤ 4 := hp_126
          have hp_127 : ntoken_117.toInt ≤ 4 * nspot_115.toInt - 4 * nfrom_116.toInt := hp_127
          have hp_128 : (ntoken_117.toInt = 2 → nvalue_118.toInt = 30 → nfrom_116.toInt + 3 ≤ nspot_115.toInt) := hp_128
          rcases hp_129 with rfl | ⟨rfl, ha_130⟩
          · skip
            refine lv_iconst (pc := 97) (v := (-1)) E.1 E.2.1 dX12_readNeed_97 (by decide +kernel) ?_
            refine lv_icmp_ne (pc := 98) (tgt := 103) E.1 E.2.1 dX12_readNeed_98 (by decide) (fun c_131 => absurd (meqE (a := (-1)) (b := (-1)) (by decide +kernel) (by decide +kernel) (by omega)) c_131) (fun _ => ?_)
            refine lv_iconst (pc := 101) (v := (-1)) E.1 E.2.1 dX12_readNeed_101 (by decide +kernel) ?_
            exact em_i (w1 := (fun (u : Int32 × Int32 × Int32 × Int32 × Int32 × Int32 × (Nat → Int32)) => (MW cI cJ M mr (upd (upd (upd (upd (upd (upd mi 22 u.1) 23 u.2.1) 24 u.2.2.1) 25 u.2.2.2.1) 38 u.2.2.2.2.1) 39 u.2.2.2.2.2.1) (va_up mf 45 u.2.2.2.2.2.2) mg))) E hr hlk (nspot_115, nfrom_116, ntoken_117, nvalue_118, nreadFault_119, nreadPlace_120, g_107) hw121 ⟨(by show 0 ≤ nfrom_116.toInt; have k_0 : ((-1) : Int32).toInt = -1 := (by decide +kernel); omega), (by show nfrom_116.toInt ≤ nspot_115.toInt; have k_0 : ((-1) : Int32).toInt = -1 := (by decide +kernel); omega), (by show nspot_115.toInt ≤ (mi 21).toInt; have k_0 : ((-1) : Int32).toInt = -1 := (by decide +kernel); omega), (by show 0 ≤ ntoken_117.toInt; have k_0 : ((-1) : Int32).toInt = -1 := (by decide +kernel); omega), (by show ntoken_117.toInt ≤ 4; have k_0 : ((-1) : Int32).toInt = -1 := (by decide +kernel); omega), (by show ntoken_117.toInt ≤ 4 * nspot_115.toInt - 4 * nfrom_116.toInt; have k_0 : ((-1) : Int32).toInt = -1 := (by decide +kernel); omega), hp_128, (Or.inl rfl)⟩ (Nat.le_of_ble_eq_true rfl) (Nat.le_of_ble_eq_true rfl) dX12_readNeed_102
          · skip
            have ha_130 : nfrom_85.toInt + 1 ≤ nfrom_116.toInt := ha_130
            refine lv_iconst (pc := 97) (v := (-1)) E.1 E.2.1 dX12_readNeed_97 (by decide +kernel) ?_
            refine lv_icmp_ne (pc := 98) (tgt := 103) E.1 E.2.1 dX12_readNeed_98 (by decide) (fun _ => ?_) (fun c_132 => absurd c_132 (mneE (a := 0) (b := (-1)) (by decide +kernel) (by decide +kernel) (by omega)))
            refine lv_aload_n (pc := 103) E.1 E.2.1 dX12_readNeed_103 rfl (lv_at hl3 0 rfl) ?_
            refine x_get (pc := 104) (T := TX12) (N := 70) (ci := 12) (v := .ref (mr 45)) E hw121 inX12 0 45 q_1444 rfl rfl (by decide) rfl rfl dX12_readNeed_104 ?_
            refine lv_iload_n (pc := 107) E.1 E.2.1 dX12_readNeed_107 rfl (lv_at hl3 1 rfl) ?_
            refine lv_iconst (pc := 108) (v := 2) E.1 E.2.1 dX12_readNeed_108 (by decide +kernel) ?_
            refine lv_iadd (pc := 109) E.1 E.2.1 dX12_readNeed_109 ?_
            refine lv_topi (fun v_133 ev_133 => ?_)
            have hv_133 : v_133.toInt = z_at.toInt + 2 := by rw [ev_133]; exact addE rfl (by decide +kernel) (by omega)
            refine lv_aload_n (pc := 110) E.1 E.2.1 dX12_readNeed_110 rfl (lv_at hl3 0 rfl) ?_
            refine lv_iconst (pc := 111) (v := 0) E.1 E.2.1 dX12_readNeed_111 (by decide +kernel) ?_
            refine lv_sipush (pc := 112) (v := 9999) E.1 E.2.1 dX12_readNeed_112 (by decide +kernel) ?_
            refine cm_i (pc := 115) hw121 (rn_M (As := [.int 0, .int 9999]) (rest := [.int v_133, .ref (mr 45)]) E hw121 (s_readNumber l D cI cJ _ M mr (upd (upd (upd (upd (upd (upd mi 22 nspot_115) 23 nfrom_116) 24 ntoken_117) 25 nvalue_118) 38 nreadFault_119) 39 nreadPlace_120) (va_up mf 45 g_107) mg 0 9999 (by show 0 ≤ nfrom_116.toInt; omega) (by show nfrom_116.toInt ≤ nspot_115.toInt; omega) (by show nspot_115.toInt ≤ (mi 21).toInt; omega) (by show (mi 21).toInt ≤ 400; omega) (by show 0 ≤ ntoken_117.toInt; omega) (by show ntoken_117.toInt ≤ 4; omega) (by show ntoken_117.toInt ≤ 4 * nspot_115.toInt - 4 * nfrom_116.toInt; omega) (by show ((mf 26) 153).toInt = 32; omega) (show (∀ j : Nat, j < 154 → (mf 26) j = w0 j) from lf_words) (show (ntoken_117.toInt = 2 → nvalue_118.toInt = 30 → nfrom_116.toInt + 3 ≤ nspot_115.toInt) from hp_128)) (gdV q_1706 q_1708 q_62 q_162 q_1709) hdV_X12_readNumber ⟨rfl, rfl⟩ ⟨(Nat.le_of_ble_eq_true rfl), (Nat.le_of_ble_eq_true rfl)⟩ ⟨(Nat.le_of_ble_eq_true rfl), (Nat.le_of_ble_eq_true rfl)⟩ 12 rfl rfl rfl rfl hl3.1 rfl (Nat.le_of_ble_eq_true rfl) dX12_readNeed_115) (fun r_135 u_134 H1 locs hp hw136 => ?_)
            obtain ⟨nspot_137, nfrom_138, ntoken_139, nvalue_140, nreadFault_141, nreadPlace_142⟩ := u_134
            generalize H1 = H at hw136 ⊢
            have hw143 : WD D A s.heap (MW cI cJ M mr (upd (upd (upd (upd (upd (upd mi 22 nspot_137) 23 nfrom_138) 24 ntoken_139) 25 nvalue_140) 38 nreadFault_141) 39 nreadPlace_142) (va_up mf 45 g_107) mg) H locs := hw136
            obtain ⟨hp_144, hp_145, hp_146, hp_147, hp_148, hp_149, hp_150, hp_151⟩ := hp
            have hp_144 : 0 ≤ nfrom_138.toInt := hp_144
            have hp_145 : nfrom_138.toInt ≤ nspot_137.toInt := hp_145
            have hp_146 : nspot_137.toInt ≤ (mi 21).toInt := hp_146
            have hp_147 : 0 ≤ ntoken_139.toInt := hp_147
            have hp_148 : ntoken_139.toInt ≤ 4 := hp_148
            have hp_149 : ntoken_139.toInt ≤ 4 * nspot_137.toInt - 4 * nfrom_138.toInt := hp_149
            have hp_150 : (ntoken_139.toInt = 2 → nvalue_140.toInt = 30 → nfrom_138.toInt + 3 ≤ nspot_137.toInt) := hp_150
            rcases hp_151 with rfl | ⟨ha_152, ha_153, ha_154⟩
            · skip
              refine x_iastG (pc := 118) (f := g_107) (wf := fun g => (MW cI cJ M mr (upd (upd (upd (upd (upd (upd mi 22 nspot_137) 23 nfrom_138) 24 ntoken_139) 25 nvalue_140) 38 nreadFault_141) 39 nreadPlace_142) (va_up mf 45 g) mg)) E hw143 22 rfl (inbE (a := v_133.toInt) rfl (by omega)) (fun _ => rfl) dX12_readNeed_118 (fun g_155 H locs eg_155 hw156 => ?_)
              refine lv_aload_n (pc := 119) E.1 E.2.1 dX12_readNeed_119 rfl (lv_at hl3 0 rfl) ?_
              refine x_get (pc := 120) (T := TX12) (N := 70) (ci := 12) (v := .ref (mr 45)) E hw156 inX12 0 45 q_1444 rfl rfl (by decide) rfl rfl dX12_readNeed_120 ?_
              refine lv_iload_n (pc := 123) E.1 E.2.1 dX12_readNeed_123 rfl (lv_at hl3 1 rfl) ?_
              refine lv_iconst (pc := 124) (v := 2) E.1 E.2.1 dX12_readNeed_124 (by decide +kernel) ?_
              refine lv_iadd (pc := 125) E.1 E.2.1 dX12_readNeed_125 ?_
              refine lv_topi (fun v_157 ev_157 => ?_)
              have hv_157 : v_157.toInt = z_at.toInt + 2 := by rw [ev_157]; exact addE rfl (by decide +kernel) (by omega)
              refine x_iald (pc := 126) (f := g_155) E hw156 22 rfl (inbE (a := v_157.toInt) rfl (by omega)) dX12_readNeed_126 ?_
              refine lv_topi (fun v_158 ev_158 => ?_)
              have hsv_158 : v_158.toInt = ((-1) : Int32).toInt := by rw [ev_158, eg_155, show v_157.toNatClampNeg = v_133.toNatClampNeg from (by have q_0 := idxI (x := v_157) (by omega); have q_1 := idxI (x := v_133) (by omega); omega), pk_us]
              rw [show ((-1) : Int32).toInt = -1 from by decide +kernel] at hsv_158
              refine lv_iconst (pc := 127) (v := (-1)) E.1 E.2.1 dX12_readNeed_127 (by decide +kernel) ?_
              refine lv_icmp_eq (pc := 128) (tgt := 141) E.1 E.2.1 dX12_readNeed_128 (by decide) (fun _ => ?_) (fun c_159 => absurd (meqE (a := v_158.toInt) (b := (-1)) rfl (by decide +kernel) (by omega)) c_159)
              refine lv_iconst (pc := 141) (v := (-1)) E.1 E.2.1 dX12_readNeed_141 (by decide +kernel) ?_
              exact em_i (w1 := (fun (u : Int32 × Int32 × Int32 × Int32 × Int32 × Int32 × (Nat → Int32)) => (MW cI cJ M mr (upd (upd (upd (upd (upd (upd mi 22 u.1) 23 u.2.1) 24 u.2.2.1) 25 u.2.2.2.1) 38 u.2.2.2.2.1) 39 u.2.2.2.2.2.1) (va_up mf 45 u.2.2.2.2.2.2) mg))) E hr hlk (nspot_137, nfrom_138, ntoken_139, nvalue_140, nreadFault_141, nreadPlace_142, g_155) hw156 ⟨(by show 0 ≤ nfrom_138.toInt; have k_0 : ((-1) : Int32).toInt = -1 := (by decide +kernel); omega), (by show nfrom_138.toInt ≤ nspot_137.toInt; have k_0 : ((-1) : Int32).toInt = -1 := (by decide +kernel); omega), (by show nspot_137.toInt ≤ (mi 21).toInt; have k_0 : ((-1) : Int32).toInt = -1 := (by decide +kernel); omega), (by show 0 ≤ ntoken_139.toInt; have k_0 : ((-1) : Int32).toInt = -1 := (by decide +kernel); omega), (by show ntoken_139.toInt ≤ 4; have k_0 : ((-1) : Int32).toInt = -1 := (by decide +kernel); omega), (by show ntoken_139.toInt ≤ 4 * nspot_137.toInt - 4 * nfrom_138.toInt; have k_0 : ((-1) : Int32).toInt = -1 := (by decide +kernel); omega), hp_150, (Or.inl rfl)⟩ (Nat.le_of_ble_eq_true rfl) (Nat.le_of_ble_eq_true rfl) dX12_readNeed_142
            · skip
              have ha_152 : (0 : Int32).toInt ≤ r_135.toInt := ha_152
              rw [show (0 : Int32).toInt = 0 from by decide +kernel] at ha_152
              have ha_153 : r_135.toInt ≤ (9999 : Int32).toInt := ha_153
              rw [show (9999 : Int32).toInt = 9999 from by decide +kernel] at ha_153
              have ha_154 : nfrom_116.toInt + 1 ≤ nfrom_138.toInt := ha_154
              refine x_iastG (pc := 118) (f := g_107) (wf := fun g => (MW cI cJ M mr (upd (upd (upd (upd (upd (upd mi 22 nspot_137) 23 nfrom_138) 24 ntoken_139) 25 nvalue_140) 38 nreadFault_141) 39 nreadPlace_142) (va_up mf 45 g) mg)) E hw143 22 rfl (inbE (a := v_133.toInt) rfl (by omega)) (fun _ => rfl) dX12_readNeed_118 (fun g_160 H locs eg_160 hw161 => ?_)
              refine lv_aload_n (pc := 119) E.1 E.2.1 dX12_readNeed_119 rfl (lv_at hl3 0 rfl) ?_
              refine x_get (pc := 120) (T := TX12) (N := 70) (ci := 12) (v := .ref (mr 45)) E hw161 inX12 0 45 q_1444 rfl rfl (by decide) rfl rfl dX12_readNeed_120 ?_
              refine lv_iload_n (pc := 123) E.1 E.2.1 dX12_readNeed_123 rfl (lv_at hl3 1 rfl) ?_
              refine lv_iconst (pc := 124) (v := 2) E.1 E.2.1 dX12_readNeed_124 (by decide +kernel) ?_
              refine lv_iadd (pc := 125) E.1 E.2.1 dX12_readNeed_125 ?_
              refine lv_topi (fun v_162 ev_162 => ?_)
              have hv_162 : v_162.toInt = z_at.toInt + 2 := by rw [ev_162]; exact addE rfl (by decide +kernel) (by omega)
              refine x_iald (pc := 126) (f := g_160) E hw161 22 rfl (inbE (a := v_162.toInt) rfl (by omega)) dX12_readNeed_126 ?_
              refine lv_topi (fun v_163 ev_163 => ?_)
              have hsv_163 : v_163.toInt = r_135.toInt := by rw [ev_163, eg_160, show v_162.toNatClampNeg = v_133.toNatClampNeg from (by have q_0 := idxI (x := v_162) (by omega); have q_1 := idxI (x := v_133) (by omega); omega), pk_us]
              refine lv_iconst (pc := 127) (v := (-1)) E.1 E.2.1 dX12_readNeed_127 (by decide +kernel) ?_
              refine lv_icmp_eq (pc := 128) (tgt := 141) E.1 E.2.1 dX12_readNeed_128 (by decide) (fun c_164 => absurd c_164 (mneE (a := v_163.toInt) (b := (-1)) rfl (by decide +kernel) (by omega))) (fun _ => ?_)
              refine lv_aload_n (pc := 131) E.1 E.2.1 dX12_readNeed_131 rfl (lv_at hl3 0 rfl) ?_
              refine lv_bipush (pc := 132) (v := 17) E.1 E.2.1 dX12_readNeed_132 (by decide +kernel) ?_
              refine cm_i (pc := 134) hw161 (rn_M (As := [.int 17]) (rest := []) E hw161 (s_readWord l D cI cJ _ M mr (upd (upd (upd (upd (upd (upd mi 22 nspot_137) 23 nfrom_138) 24 ntoken_139) 25 nvalue_140) 38 nreadFault_141) 39 nreadPlace_142) (va_up mf 45 g_160) mg 17 (by show 0 ≤ nfrom_138.toInt; omega) (by show nfrom_138.toInt ≤ nspot_137.toInt; omega) (by show nspot_137.toInt ≤ (mi 21).toInt; omega) (by show (mi 21).toInt ≤ 400; omega) (by show 0 ≤ ntoken_139.toInt; omega) (by show ntoken_139.toInt ≤ 4; omega) (by show ntoken_139.toInt ≤ 4 * nspot_137.toInt - 4 * nfrom_138.toInt; omega) (by show ((mf 26) 153).toInt = 32; omega) (show (∀ j : Nat, j < 154 → (mf 26) j = w0 j) from lf_words) (show (ntoken_139.toInt = 2 → nvalue_140.toInt = 30 → nfrom_138.toInt + 3 ≤ nspot_137.toInt) from hp_150)) (gdV q_1710 q_1712 q_63 q_162 q_1713) hdV_X12_readWord ⟨rfl, rfl⟩ ⟨(Nat.le_of_ble_eq_true rfl), (Nat.le_of_ble_eq_true rfl)⟩ ⟨(Nat.le_of_ble_eq_true rfl), (Nat.le_of_ble_eq_true rfl)⟩ 12 rfl rfl rfl rfl hl3.1 rfl (Nat.le_of_ble_eq_true rfl) dX12_readNeed_134) (fun r_166 u_165 H1 locs hp hw167 => ?_)
              obtain ⟨nspot_168, nfrom_169, ntoken_170, nvalue_171, nreadFault_172, nreadPlace_173⟩ := u_165
              generalize H1 = H at hw167 ⊢
              have hw174 : WD D A s.heap (MW cI cJ M mr (upd (upd (upd (upd (upd (upd mi 22 nspot_168) 23 nfrom_169) 24 ntoken_170) 25 nvalue_171) 38 nreadFault_172) 39 nreadPlace_173) (va_up mf 45 g_160) mg) H locs := hw167
              obtain ⟨hp_175, hp_176, hp_177, hp_178, hp_179, hp_180, hp_181, hp_182⟩ := hp
              have hp_175 : 0 ≤ nfrom_169.toInt := hp_175
              have hp_176 : nfrom_169.toInt ≤ nspot_168.toInt := hp_176
              have hp_177 : nspot_168.toInt ≤ (mi 21).toInt := hp_177
              have hp_178 : 0 ≤ ntoken_170.toInt := hp_178
              have hp_179 : ntoken_170.toInt ≤ 4 := hp_179
              have hp_180 : ntoken_170.toInt ≤ 4 * nspot_168.toInt - 4 * nfrom_169.toInt := hp_180
              have hp_181 : (ntoken_170.toInt = 2 → nvalue_171.toInt = 30 → nfrom_169.toInt + 3 ≤ nspot_168.toInt) := hp_181
              rcases hp_182 with rfl | ⟨rfl, ha_183⟩
              · skip
                refine lv_iconst (pc := 137) (v := (-1)) E.1 E.2.1 dX12_readNeed_137 (by decide +kernel) ?_
                refine lv_icmp_ne (pc := 138) (tgt := 143) E.1 E.2.1 dX12_readNeed_138 (by decide) (fun c_184 => absurd (meqE (a := (-1)) (b := (-1)) (by decide +kernel) (by decide +kernel) (by omega)) c_184) (fun _ => ?_)
                refine lv_iconst (pc := 141) (v := (-1)) E.1 E.2.1 dX12_readNeed_141 (by decide +kernel) ?_
                exact em_i (w1 := (fun (u : Int32 × Int32 × Int32 × Int32 × Int32 × Int32 × (Nat → Int32)) => (MW cI cJ M mr (upd (upd (upd (upd (upd (upd mi 22 u.1) 23 u.2.1) 24 u.2.2.1) 25 u.2.2.2.1) 38 u.2.2.2.2.1) 39 u.2.2.2.2.2.1) (va_up mf 45 u.2.2.2.2.2.2) mg))) E hr hlk (nspot_168, nfrom_169, ntoken_170, nvalue_171, nreadFault_172, nreadPlace_173, g_160) hw174 ⟨(by show 0 ≤ nfrom_169.toInt; have k_0 : ((-1) : Int32).toInt = -1 := (by decide +kernel); omega), (by show nfrom_169.toInt ≤ nspot_168.toInt; have k_0 : ((-1) : Int32).toInt = -1 := (by decide +kernel); omega), (by show nspot_168.toInt ≤ (mi 21).toInt; have k_0 : ((-1) : Int32).toInt = -1 := (by decide +kernel); omega), (by show 0 ≤ ntoken_170.toInt; have k_0 : ((-1) : Int32).toInt = -1 := (by decide +kernel); omega), (by show ntoken_170.toInt ≤ 4; have k_0 : ((-1) : Int32).toInt = -1 := (by decide +kernel); omega), (by show ntoken_170.toInt ≤ 4 * nspot_168.toInt - 4 * nfrom_169.toInt; have k_0 : ((-1) : Int32).toInt = -1 := (by decide +kernel); omega), hp_181, (Or.inl rfl)⟩ (Nat.le_of_ble_eq_true rfl) (Nat.le_of_ble_eq_true rfl) dX12_readNeed_142
              · skip
                have ha_183 : nfrom_138.toInt + 1 ≤ nfrom_169.toInt := ha_183
                refine lv_iconst (pc := 137) (v := (-1)) E.1 E.2.1 dX12_readNeed_137 (by decide +kernel) ?_
                refine lv_icmp_ne (pc := 138) (tgt := 143) E.1 E.2.1 dX12_readNeed_138 (by decide) (fun _ => ?_) (fun c_185 => absurd c_185 (mneE (a := 0) (b := (-1)) (by decide +kernel) (by decide +kernel) (by omega)))
                refine lv_aload_n (pc := 143) E.1 E.2.1 dX12_readNeed_143 rfl (lv_at hl3 0 rfl) ?_
                refine x_get (pc := 144) (T := TX12) (N := 70) (ci := 12) (v := .ref (mr 45)) E hw174 inX12 0 45 q_1444 rfl rfl (by decide) rfl rfl dX12_readNeed_144 ?_
                refine lv_iload_n (pc := 147) E.1 E.2.1 dX12_readNeed_147 rfl (lv_at hl3 1 rfl) ?_
                refine lv_iconst (pc := 148) (v := 3) E.1 E.2.1 dX12_readNeed_148 (by decide +kernel) ?_
                refine lv_iadd (pc := 149) E.1 E.2.1 dX12_readNeed_149 ?_
                refine lv_topi (fun v_186 ev_186 => ?_)
                have hv_186 : v_186.toInt = z_at.toInt + 3 := by rw [ev_186]; exact addE rfl (by decide +kernel) (by omega)
                refine lv_aload_n (pc := 150) E.1 E.2.1 dX12_readNeed_150 rfl (lv_at hl3 0 rfl) ?_
                refine lv_aload_n (pc := 151) E.1 E.2.1 dX12_readNeed_151 rfl (lv_at hl3 0 rfl) ?_
                refine x_get (pc := 152) (T := TX12) (N := 70) (ci := 12) (v := .ref (mr 45)) E hw174 inX12 0 45 q_1444 rfl rfl (by decide) rfl rfl dX12_readNeed_152 ?_
                refine lv_iload_n (pc := 155) E.1 E.2.1 dX12_readNeed_155 rfl (lv_at hl3 1 rfl) ?_
                refine lv_iconst (pc := 156) (v := 2) E.1 E.2.1 dX12_readNeed_156 (by decide +kernel) ?_
                refine lv_iadd (pc := 157) E.1 E.2.1 dX12_readNeed_157 ?_
                refine lv_topi (fun v_187 ev_187 => ?_)
                have hv_187 : v_187.toInt = z_at.toInt + 2 := by rw [ev_187]; exact addE rfl (by decide +kernel) (by omega)
                refine x_iald (pc := 158) (f := g_160) E hw174 22 rfl (inbE (a := v_187.toInt) rfl (by omega)) dX12_readNeed_158 ?_
                refine lv_topi (fun v_188 ev_188 => ?_)
                have hsv_188 : v_188.toInt = r_135.toInt := by rw [ev_188, eg_160, show v_187.toNatClampNeg = v_133.toNatClampNeg from (by have q_0 := idxI (x := v_187) (by omega); have q_1 := idxI (x := v_133) (by omega); omega), pk_us]
                refine lv_sipush (pc := 159) (v := 9999) E.1 E.2.1 dX12_readNeed_159 (by decide +kernel) ?_
                refine cm_i (pc := 162) hw174 (rn_M (As := [.int v_188, .int 9999]) (rest := [.int v_186, .ref (mr 45)]) E hw174 (s_readNumber l D cI cJ _ M mr (upd (upd (upd (upd (upd (upd mi 22 nspot_168) 23 nfrom_169) 24 ntoken_170) 25 nvalue_171) 38 nreadFault_172) 39 nreadPlace_173) (va_up mf 45 g_160) mg v_188 9999 (by show 0 ≤ nfrom_169.toInt; omega) (by show nfrom_169.toInt ≤ nspot_168.toInt; omega) (by show nspot_168.toInt ≤ (mi 21).toInt; omega) (by show (mi 21).toInt ≤ 400; omega) (by show 0 ≤ ntoken_170.toInt; omega) (by show ntoken_170.toInt ≤ 4; omega) (by show ntoken_170.toInt ≤ 4 * nspot_168.toInt - 4 * nfrom_169.toInt; omega) (by show ((mf 26) 153).toInt = 32; omega) (show (∀ j : Nat, j < 154 → (mf 26) j = w0 j) from lf_words) (show (ntoken_170.toInt = 2 → nvalue_171.toInt = 30 → nfrom_169.toInt + 3 ≤ nspot_168.toInt) from hp_181)) (gdV q_1706 q_1708 q_62 q_162 q_1709) hdV_X12_readNumber ⟨rfl, rfl⟩ ⟨(Nat.le_of_ble_eq_true rfl), (Nat.le_of_ble_eq_true rfl)⟩ ⟨(Nat.le_of_ble_eq_true rfl), (Nat.le_of_ble_eq_true rfl)⟩ 12 rfl rfl rfl rfl hl3.1 rfl (Nat.le_of_ble_eq_true rfl) dX12_readNeed_162) (fun r_190 u_189 H1 locs hp hw191 => ?_)
                obtain ⟨nspot_192, nfrom_193, ntoken_194, nvalue_195, nreadFault_196, nreadPlace_197⟩ := u_189
                generalize H1 = H at hw191 ⊢
                have hw198 : WD D A s.heap (MW cI cJ M mr (upd (upd (upd (upd (upd (upd mi 22 nspot_192) 23 nfrom_193) 24 ntoken_194) 25 nvalue_195) 38 nreadFault_196) 39 nreadPlace_197) (va_up mf 45 g_160) mg) H locs := hw191
                obtain ⟨hp_199, hp_200, hp_201, hp_202, hp_203, hp_204, hp_205, hp_206⟩ := hp
                have hp_199 : 0 ≤ nfrom_193.toInt := hp_199
                have hp_200 : nfrom_193.toInt ≤ nspot_192.toInt := hp_200
                have hp_201 : nspot_192.toInt ≤ (mi 21).toInt := hp_201
                have hp_202 : 0 ≤ ntoken_194.toInt := hp_202
                have hp_203 : ntoken_194.toInt ≤ 4 := hp_203
                have hp_204 : ntoken_194.toInt ≤ 4 * nspot_192.toInt - 4 * nfrom_193.toInt := hp_204
                have hp_205 : (ntoken_194.toInt = 2 → nvalue_195.toInt = 30 → nfrom_193.toInt + 3 ≤ nspot_192.toInt) := hp_205
                rcases hp_206 with rfl | ⟨ha_207, ha_208, ha_209⟩
                · skip
                  refine x_iastG (pc := 165) (f := g_160) (wf := fun g => (MW cI cJ M mr (upd (upd (upd (upd (upd (upd mi 22 nspot_192) 23 nfrom_193) 24 ntoken_194) 25 nvalue_195) 38 nreadFault_196) 39 nreadPlace_197) (va_up mf 45 g) mg)) E hw198 22 rfl (inbE (a := v_186.toInt) rfl (by omega)) (fun _ => rfl) dX12_readNeed_165 (fun g_210 H locs eg_210 hw211 => ?_)
                  refine lv_aload_n (pc := 166) E.1 E.2.1 dX12_readNeed_166 rfl (lv_at hl3 0 rfl) ?_
                  refine x_get (pc := 167) (T := TX12) (N := 70) (ci := 12) (v := .ref (mr 45)) E hw211 inX12 0 45 q_1444 rfl rfl (by decide) rfl rfl dX12_readNeed_167 ?_
                  refine lv_iload_n (pc := 170) E.1 E.2.1 dX12_readNeed_170 rfl (lv_at hl3 1 rfl) ?_
                  refine lv_iconst (pc := 171) (v := 3) E.1 E.2.1 dX12_readNeed_171 (by decide +kernel) ?_
                  refine lv_iadd (pc := 172) E.1 E.2.1 dX12_readNeed_172 ?_
                  refine lv_topi (fun v_212 ev_212 => ?_)
                  have hv_212 : v_212.toInt = z_at.toInt + 3 := by rw [ev_212]; exact addE rfl (by decide +kernel) (by omega)
                  refine x_iald (pc := 173) (f := g_210) E hw211 22 rfl (inbE (a := v_212.toInt) rfl (by omega)) dX12_readNeed_173 ?_
                  refine lv_topi (fun v_213 ev_213 => ?_)
                  have hsv_213 : v_213.toInt = ((-1) : Int32).toInt := by rw [ev_213, eg_210, show v_212.toNatClampNeg = v_186.toNatClampNeg from (by have q_0 := idxI (x := v_212) (by omega); have q_1 := idxI (x := v_186) (by omega); omega), pk_us]
                  rw [show ((-1) : Int32).toInt = -1 from by decide +kernel] at hsv_213
                  refine lv_iconst (pc := 174) (v := (-1)) E.1 E.2.1 dX12_readNeed_174 (by decide +kernel) ?_
                  refine lv_icmp_eq (pc := 175) (tgt := 188) E.1 E.2.1 dX12_readNeed_175 (by decide) (fun _ => ?_) (fun c_214 => absurd (meqE (a := v_213.toInt) (b := (-1)) rfl (by decide +kernel) (by omega)) c_214)
                  refine lv_iconst (pc := 188) (v := (-1)) E.1 E.2.1 dX12_readNeed_188 (by decide +kernel) ?_
                  exact em_i (w1 := (fun (u : Int32 × Int32 × Int32 × Int32 × Int32 × Int32 × (Nat → Int32)) => (MW cI cJ M mr (upd (upd (upd (upd (upd (upd mi 22 u.1) 23 u.2.1) 24 u.2.2.1) 25 u.2.2.2.1) 38 u.2.2.2.2.1) 39 u.2.2.2.2.2.1) (va_up mf 45 u.2.2.2.2.2.2) mg))) E hr hlk (nspot_192, nfrom_193, ntoken_194, nvalue_195, nreadFault_196, nreadPlace_197, g_210) hw211 ⟨(by show 0 ≤ nfrom_193.toInt; have k_0 : ((-1) : Int32).toInt = -1 := (by decide +kernel); omega), (by show nfrom_193.toInt ≤ nspot_192.toInt; have k_0 : ((-1) : Int32).toInt = -1 := (by decide +kernel); omega), (by show nspot_192.toInt ≤ (mi 21).toInt; have k_0 : ((-1) : Int32).toInt = -1 := (by decide +kernel); omega), (by show 0 ≤ ntoken_194.toInt; have k_0 : ((-1) : Int32).toInt = -1 := (by decide +kernel); omega), (by show ntoken_194.toInt ≤ 4; have k_0 : ((-1) : Int32).toInt = -1 := (by decide +kernel); omega), (by show ntoken_194.toInt ≤ 4 * nspot_192.toInt - 4 * nfrom_193.toInt; have k_0 : ((-1) : Int32).toInt = -1 := (by decide +kernel); omega), hp_205, (Or.inl rfl)⟩ (Nat.le_of_ble_eq_true rfl) (Nat.le_of_ble_eq_true rfl) dX12_readNeed_189
                · skip
                  have ha_207 : v_188.toInt ≤ r_190.toInt := ha_207
                  have ha_208 : r_190.toInt ≤ (9999 : Int32).toInt := ha_208
                  rw [show (9999 : Int32).toInt = 9999 from by decide +kernel] at ha_208
                  have ha_209 : nfrom_169.toInt + 1 ≤ nfrom_193.toInt := ha_209
                  refine x_iastG (pc := 165) (f := g_160) (wf := fun g => (MW cI cJ M mr (upd (upd (upd (upd (upd (upd mi 22 nspot_192) 23 nfrom_193) 24 ntoken_194) 25 nvalue_195) 38 nreadFault_196) 39 nreadPlace_197) (va_up mf 45 g) mg)) E hw198 22 rfl (inbE (a := v_186.toInt) rfl (by omega)) (fun _ => rfl) dX12_readNeed_165 (fun g_215 H locs eg_215 hw216 => ?_)
                  refine lv_aload_n (pc := 166) E.1 E.2.1 dX12_readNeed_166 rfl (lv_at hl3 0 rfl) ?_
                  refine x_get (pc := 167) (T := TX12) (N := 70) (ci := 12) (v := .ref (mr 45)) E hw216 inX12 0 45 q_1444 rfl rfl (by decide) rfl rfl dX12_readNeed_167 ?_
                  refine lv_iload_n (pc := 170) E.1 E.2.1 dX12_readNeed_170 rfl (lv_at hl3 1 rfl) ?_
                  refine lv_iconst (pc := 171) (v := 3) E.1 E.2.1 dX12_readNeed_171 (by decide +kernel) ?_
                  refine lv_iadd (pc := 172) E.1 E.2.1 dX12_readNeed_172 ?_
                  refine lv_topi (fun v_217 ev_217 => ?_)
                  have hv_217 : v_217.toInt = z_at.toInt + 3 := by rw [ev_217]; exact addE rfl (by decide +kernel) (by omega)
                  refine x_iald (pc := 173) (f := g_215) E hw216 22 rfl (inbE (a := v_217.toInt) rfl (by omega)) dX12_readNeed_173 ?_
                  refine lv_topi (fun v_218 ev_218 => ?_)
                  have hsv_218 : v_218.toInt = r_190.toInt := by rw [ev_218, eg_215, show v_217.toNatClampNeg = v_186.toNatClampNeg from (by have q_0 := idxI (x := v_217) (by omega); have q_1 := idxI (x := v_186) (by omega); omega), pk_us]
                  refine lv_iconst (pc := 174) (v := (-1)) E.1 E.2.1 dX12_readNeed_174 (by decide +kernel) ?_
                  refine lv_icmp_eq (pc := 175) (tgt := 188) E.1 E.2.1 dX12_readNeed_175 (by decide) (fun c_219 => absurd c_219 (mneE (a := v_218.toInt) (b := (-1)) rfl (by decide +kernel) (by omega))) (fun _ => ?_)
                  refine lv_aload_n (pc := 178) E.1 E.2.1 dX12_readNeed_178 rfl (lv_at hl3 0 rfl) ?_
                  refine lv_bipush (pc := 179) (v := 27) E.1 E.2.1 dX12_readNeed_179 (by decide +kernel) ?_
                  refine cm_i (pc := 181) hw216 (rn_M (As := [.int 27]) (rest := []) E hw216 (s_readWord l D cI cJ _ M mr (upd (upd (upd (upd (upd (upd mi 22 nspot_192) 23 nfrom_193) 24 ntoken_194) 25 nvalue_195) 38 nreadFault_196) 39 nreadPlace_197) (va_up mf 45 g_215) mg 27 (by show 0 ≤ nfrom_193.toInt; omega) (by show nfrom_193.toInt ≤ nspot_192.toInt; omega) (by show nspot_192.toInt ≤ (mi 21).toInt; omega) (by show (mi 21).toInt ≤ 400; omega) (by show 0 ≤ ntoken_194.toInt; omega) (by show ntoken_194.toInt ≤ 4; omega) (by show ntoken_194.toInt ≤ 4 * nspot_192.toInt - 4 * nfrom_193.toInt; omega) (by show ((mf 26) 153).toInt = 32; omega) (show (∀ j : Nat, j < 154 → (mf 26) j = w0 j) from lf_words) (show (ntoken_194.toInt = 2 → nvalue_195.toInt = 30 → nfrom_193.toInt + 3 ≤ nspot_192.toInt) from hp_205)) (gdV q_1710 q_1712 q_63 q_162 q_1713) hdV_X12_readWord ⟨rfl, rfl⟩ ⟨(Nat.le_of_ble_eq_true rfl), (Nat.le_of_ble_eq_true rfl)⟩ ⟨(Nat.le_of_ble_eq_true rfl), (Nat.le_of_ble_eq_true rfl)⟩ 12 rfl rfl rfl rfl hl3.1 rfl (Nat.le_of_ble_eq_true rfl) dX12_readNeed_181) (fun r_221 u_220 H1 locs hp hw222 => ?_)
                  obtain ⟨nspot_223, nfrom_224, ntoken_225, nvalue_226, nreadFault_227, nreadPlace_228⟩ := u_220
                  generalize H1 = H at hw222 ⊢
                  have hw229 : WD D A s.heap (MW cI cJ M mr (upd (upd (upd (upd (upd (upd mi 22 nspot_223) 23 nfrom_224) 24 ntoken_225) 25 nvalue_226) 38 nreadFault_227) 39 nreadPlace_228) (va_up mf 45 g_215) mg) H locs := hw222
                  obtain ⟨hp_230, hp_231, hp_232, hp_233, hp_234, hp_235, hp_236, hp_237⟩ := hp
                  have hp_230 : 0 ≤ nfrom_224.toInt := hp_230
                  have hp_231 : nfrom_224.toInt ≤ nspot_223.toInt := hp_231
                  have hp_232 : nspot_223.toInt ≤ (mi 21).toInt := hp_232
                  have hp_233 : 0 ≤ ntoken_225.toInt := hp_233
                  have hp_234 : ntoken_225.toInt ≤ 4 := hp_234
                  have hp_235 : ntoken_225.toInt ≤ 4 * nspot_223.toInt - 4 * nfrom_224.toInt := hp_235
                  have hp_236 : (ntoken_225.toInt = 2 → nvalue_226.toInt = 30 → nfrom_224.toInt + 3 ≤ nspot_223.toInt) := hp_236
                  rcases hp_237 with rfl | ⟨rfl, ha_238⟩
                  · skip
                    refine lv_iconst (pc := 184) (v := (-1)) E.1 E.2.1 dX12_readNeed_184 (by decide +kernel) ?_
                    refine lv_icmp_ne (pc := 185) (tgt := 190) E.1 E.2.1 dX12_readNeed_185 (by decide) (fun c_239 => absurd (meqE (a := (-1)) (b := (-1)) (by decide +kernel) (by decide +kernel) (by omega)) c_239) (fun _ => ?_)
                    refine lv_iconst (pc := 188) (v := (-1)) E.1 E.2.1 dX12_readNeed_188 (by decide +kernel) ?_
                    exact em_i (w1 := (fun (u : Int32 × Int32 × Int32 × Int32 × Int32 × Int32 × (Nat → Int32)) => (MW cI cJ M mr (upd (upd (upd (upd (upd (upd mi 22 u.1) 23 u.2.1) 24 u.2.2.1) 25 u.2.2.2.1) 38 u.2.2.2.2.1) 39 u.2.2.2.2.2.1) (va_up mf 45 u.2.2.2.2.2.2) mg))) E hr hlk (nspot_223, nfrom_224, ntoken_225, nvalue_226, nreadFault_227, nreadPlace_228, g_215) hw229 ⟨(by show 0 ≤ nfrom_224.toInt; have k_0 : ((-1) : Int32).toInt = -1 := (by decide +kernel); omega), (by show nfrom_224.toInt ≤ nspot_223.toInt; have k_0 : ((-1) : Int32).toInt = -1 := (by decide +kernel); omega), (by show nspot_223.toInt ≤ (mi 21).toInt; have k_0 : ((-1) : Int32).toInt = -1 := (by decide +kernel); omega), (by show 0 ≤ ntoken_225.toInt; have k_0 : ((-1) : Int32).toInt = -1 := (by decide +kernel); omega), (by show ntoken_225.toInt ≤ 4; have k_0 : ((-1) : Int32).toInt = -1 := (by decide +kernel); omega), (by show ntoken_225.toInt ≤ 4 * nspot_223.toInt - 4 * nfrom_224.toInt; have k_0 : ((-1) : Int32).toInt = -1 := (by decide +kernel); omega), hp_236, (Or.inl rfl)⟩ (Nat.le_of_ble_eq_true rfl) (Nat.le_of_ble_eq_true rfl) dX12_readNeed_189
                  · skip
                    have ha_238 : nfrom_193.toInt + 1 ≤ nfrom_224.toInt := ha_238
                    refine lv_iconst (pc := 184) (v := (-1)) E.1 E.2.1 dX12_readNeed_184 (by decide +kernel) ?_
                    refine lv_icmp_ne (pc := 185) (tgt := 190) E.1 E.2.1 dX12_readNeed_185 (by decide) (fun _ => ?_) (fun c_240 => absurd c_240 (mneE (a := 0) (b := (-1)) (by decide +kernel) (by decide +kernel) (by omega)))
                    refine lv_aload_n (pc := 190) E.1 E.2.1 dX12_readNeed_190 rfl (lv_at hl3 0 rfl) ?_
                    refine x_get (pc := 191) (T := TX12) (N := 70) (ci := 12) (v := .ref (mr 45)) E hw229 inX12 0 45 q_1444 rfl rfl (by decide) rfl rfl dX12_readNeed_191 ?_
                    refine lv_iload_n (pc := 194) E.1 E.2.1 dX12_readNeed_194 rfl (lv_at hl3 1 rfl) ?_
                    refine lv_iconst (pc := 195) (v := 4) E.1 E.2.1 dX12_readNeed_195 (by decide +kernel) ?_
                    refine lv_iadd (pc := 196) E.1 E.2.1 dX12_readNeed_196 ?_
                    refine lv_topi (fun v_241 ev_241 => ?_)
                    have hv_241 : v_241.toInt = z_at.toInt + 4 := by rw [ev_241]; exact addE rfl (by decide +kernel) (by omega)
                    refine lv_aload_n (pc := 197) E.1 E.2.1 dX12_readNeed_197 rfl (lv_at hl3 0 rfl) ?_
                    refine lv_iconst (pc := 198) (v := 1) E.1 E.2.1 dX12_readNeed_198 (by decide +kernel) ?_
                    refine lv_bipush (pc := 199) (v := 99) E.1 E.2.1 dX12_readNeed_199 (by decide +kernel) ?_
                    refine cm_i (pc := 201) hw229 (rn_M (As := [.int 1, .int 99]) (rest := [.int v_241, .ref (mr 45)]) E hw229 (s_readNumber l D cI cJ _ M mr (upd (upd (upd (upd (upd (upd mi 22 nspot_223) 23 nfrom_224) 24 ntoken_225) 25 nvalue_226) 38 nreadFault_227) 39 nreadPlace_228) (va_up mf 45 g_215) mg 1 99 (by show 0 ≤ nfrom_224.toInt; omega) (by show nfrom_224.toInt ≤ nspot_223.toInt; omega) (by show nspot_223.toInt ≤ (mi 21).toInt; omega) (by show (mi 21).toInt ≤ 400; omega) (by show 0 ≤ ntoken_225.toInt; omega) (by show ntoken_225.toInt ≤ 4; omega) (by show ntoken_225.toInt ≤ 4 * nspot_223.toInt - 4 * nfrom_224.toInt; omega) (by show ((mf 26) 153).toInt = 32; omega) (show (∀ j : Nat, j < 154 → (mf 26) j = w0 j) from lf_words) (show (ntoken_225.toInt = 2 → nvalue_226.toInt = 30 → nfrom_224.toInt + 3 ≤ nspot_223.toInt) from hp_236)) (gdV q_1706 q_1708 q_62 q_162 q_1709) hdV_X12_readNumber ⟨rfl, rfl⟩ ⟨(Nat.le_of_ble_eq_true rfl), (Nat.le_of_ble_eq_true rfl)⟩ ⟨(Nat.le_of_ble_eq_true rfl), (Nat.le_of_ble_eq_true rfl)⟩ 12 rfl rfl rfl rfl hl3.1 rfl (Nat.le_of_ble_eq_true rfl) dX12_readNeed_201) (fun r_243 u_242 H1 locs hp hw244 => ?_)
                    obtain ⟨nspot_245, nfrom_246, ntoken_247, nvalue_248, nreadFault_249, nreadPlace_250⟩ := u_242
                    generalize H1 = H at hw244 ⊢
                    have hw251 : WD D A s.heap (MW cI cJ M mr (upd (upd (upd (upd (upd (upd mi 22 nspot_245) 23 nfrom_246) 24 ntoken_247) 25 nvalue_248) 38 nreadFault_249) 39 nreadPlace_250) (va_up mf 45 g_215) mg) H locs := hw244
                    obtain ⟨hp_252, hp_253, hp_254, hp_255, hp_256, hp_257, hp_258, hp_259⟩ := hp
                    have hp_252 : 0 ≤ nfrom_246.toInt := hp_252
                    have hp_253 : nfrom_246.toInt ≤ nspot_245.toInt := hp_253
                    have hp_254 : nspot_245.toInt ≤ (mi 21).toInt := hp_254
                    have hp_255 : 0 ≤ ntoken_247.toInt := hp_255
                    have hp_256 : ntoken_247.toInt ≤ 4 := hp_256
                    have hp_257 : ntoken_247.toInt ≤ 4 * nspot_245.toInt - 4 * nfrom_246.toInt := hp_257
                    have hp_258 : (ntoken_247.toInt = 2 → nvalue_248.toInt = 30 → nfrom_246.toInt + 3 ≤ nspot_245.toInt) := hp_258
                    rcases hp_259 with rfl | ⟨ha_260, ha_261, ha_262⟩
                    · skip
                      refine x_iastG (pc := 204) (f := g_215) (wf := fun g => (MW cI cJ M mr (upd (upd (upd (upd (upd (upd mi 22 nspot_245) 23 nfrom_246) 24 ntoken_247) 25 nvalue_248) 38 nreadFault_249) 39 nreadPlace_250) (va_up mf 45 g) mg)) E hw251 22 rfl (inbE (a := v_241.toInt) rfl (by omega)) (fun _ => rfl) dX12_readNeed_204 (fun g_263 H locs eg_263 hw264 => ?_)
                      refine lv_aload_n (pc := 205) E.1 E.2.1 dX12_readNeed_205 rfl (lv_at hl3 0 rfl) ?_
                      refine x_get (pc := 206) (T := TX12) (N := 70) (ci := 12) (v := .ref (mr 45)) E hw264 inX12 0 45 q_1444 rfl rfl (by decide) rfl rfl dX12_readNeed_206 ?_
                      refine lv_iload_n (pc := 209) E.1 E.2.1 dX12_readNeed_209 rfl (lv_at hl3 1 rfl) ?_
                      refine lv_iconst (pc := 210) (v := 4) E.1 E.2.1 dX12_readNeed_210 (by decide +kernel) ?_
                      refine lv_iadd (pc := 211) E.1 E.2.1 dX12_readNeed_211 ?_
                      refine lv_topi (fun v_265 ev_265 => ?_)
                      have hv_265 : v_265.toInt = z_at.toInt + 4 := by rw [ev_265]; exact addE rfl (by decide +kernel) (by omega)
                      refine x_iald (pc := 212) (f := g_263) E hw264 22 rfl (inbE (a := v_265.toInt) rfl (by omega)) dX12_readNeed_212 ?_
                      refine lv_topi (fun v_266 ev_266 => ?_)
                      have hsv_266 : v_266.toInt = ((-1) : Int32).toInt := by rw [ev_266, eg_263, show v_265.toNatClampNeg = v_241.toNatClampNeg from (by have q_0 := idxI (x := v_265) (by omega); have q_1 := idxI (x := v_241) (by omega); omega), pk_us]
                      rw [show ((-1) : Int32).toInt = -1 from by decide +kernel] at hsv_266
                      refine lv_iconst (pc := 213) (v := (-1)) E.1 E.2.1 dX12_readNeed_213 (by decide +kernel) ?_
                      refine lv_icmp_ne (pc := 214) (tgt := 221) E.1 E.2.1 dX12_readNeed_214 (by decide) (fun c_267 => absurd (meqE (a := v_266.toInt) (b := (-1)) rfl (by decide +kernel) (by omega)) c_267) (fun _ => ?_)
                      refine lv_iconst (pc := 217) (v := (-1)) E.1 E.2.1 dX12_readNeed_217 (by decide +kernel) ?_
                      refine lv_goto (pc := 218) (tgt := 227) E.1 E.2.1 dX12_readNeed_218 (by decide) ?_
                      exact em_i (w1 := (fun (u : Int32 × Int32 × Int32 × Int32 × Int32 × Int32 × (Nat → Int32)) => (MW cI cJ M mr (upd (upd (upd (upd (upd (upd mi 22 u.1) 23 u.2.1) 24 u.2.2.1) 25 u.2.2.2.1) 38 u.2.2.2.2.1) 39 u.2.2.2.2.2.1) (va_up mf 45 u.2.2.2.2.2.2) mg))) E hr hlk (nspot_245, nfrom_246, ntoken_247, nvalue_248, nreadFault_249, nreadPlace_250, g_263) hw264 ⟨(by show 0 ≤ nfrom_246.toInt; have k_0 : ((-1) : Int32).toInt = -1 := (by decide +kernel); omega), (by show nfrom_246.toInt ≤ nspot_245.toInt; have k_0 : ((-1) : Int32).toInt = -1 := (by decide +kernel); omega), (by show nspot_245.toInt ≤ (mi 21).toInt; have k_0 : ((-1) : Int32).toInt = -1 := (by decide +kernel); omega), (by show 0 ≤ ntoken_247.toInt; have k_0 : ((-1) : Int32).toInt = -1 := (by decide +kernel); omega), (by show ntoken_247.toInt ≤ 4; have k_0 : ((-1) : Int32).toInt = -1 := (by decide +kernel); omega), (by show ntoken_247.toInt ≤ 4 * nspot_245.toInt - 4 * nfrom_246.toInt; have k_0 : ((-1) : Int32).toInt = -1 := (by decide +kernel); omega), hp_258, (Or.inl rfl)⟩ (Nat.le_of_ble_eq_true rfl) (Nat.le_of_ble_eq_true rfl) dX12_readNeed_227
                    · skip
                      have ha_260 : (1 : Int32).toInt ≤ r_243.toInt := ha_260
                      rw [show (1 : Int32).toInt = 1 from by decide +kernel] at ha_260
                      have ha_261 : r_243.toInt ≤ (99 : Int32).toInt := ha_261
                      rw [show (99 : Int32).toInt = 99 from by decide +kernel] at ha_261
                      have ha_262 : nfrom_224.toInt + 1 ≤ nfrom_246.toInt := ha_262
                      refine x_iastG (pc := 204) (f := g_215) (wf := fun g => (MW cI cJ M mr (upd (upd (upd (upd (upd (upd mi 22 nspot_245) 23 nfrom_246) 24 ntoken_247) 25 nvalue_248) 38 nreadFault_249) 39 nreadPlace_250) (va_up mf 45 g) mg)) E hw251 22 rfl (inbE (a := v_241.toInt) rfl (by omega)) (fun _ => rfl) dX12_readNeed_204 (fun g_268 H locs eg_268 hw269 => ?_)
                      refine lv_aload_n (pc := 205) E.1 E.2.1 dX12_readNeed_205 rfl (lv_at hl3 0 rfl) ?_
                      refine x_get (pc := 206) (T := TX12) (N := 70) (ci := 12) (v := .ref (mr 45)) E hw269 inX12 0 45 q_1444 rfl rfl (by decide) rfl rfl dX12_readNeed_206 ?_
                      refine lv_iload_n (pc := 209) E.1 E.2.1 dX12_readNeed_209 rfl (lv_at hl3 1 rfl) ?_
                      refine lv_iconst (pc := 210) (v := 4) E.1 E.2.1 dX12_readNeed_210 (by decide +kernel) ?_
                      refine lv_iadd (pc := 211) E.1 E.2.1 dX12_readNeed_211 ?_
                      refine lv_topi (fun v_270 ev_270 => ?_)
                      have hv_270 : v_270.toInt = z_at.toInt + 4 := by rw [ev_270]; exact addE rfl (by decide +kernel) (by omega)
                      refine x_iald (pc := 212) (f := g_268) E hw269 22 rfl (inbE (a := v_270.toInt) rfl (by omega)) dX12_readNeed_212 ?_
                      refine lv_topi (fun v_271 ev_271 => ?_)
                      have hsv_271 : v_271.toInt = r_243.toInt := by rw [ev_271, eg_268, show v_270.toNatClampNeg = v_241.toNatClampNeg from (by have q_0 := idxI (x := v_270) (by omega); have q_1 := idxI (x := v_241) (by omega); omega), pk_us]
                      refine lv_iconst (pc := 213) (v := (-1)) E.1 E.2.1 dX12_readNeed_213 (by decide +kernel) ?_
                      refine lv_icmp_ne (pc := 214) (tgt := 221) E.1 E.2.1 dX12_readNeed_214 (by decide) (fun _ => ?_) (fun c_272 => absurd c_272 (mneE (a := v_271.toInt) (b := (-1)) rfl (by decide +kernel) (by omega)))
                      refine lv_aload_n (pc := 221) E.1 E.2.1 dX12_readNeed_221 rfl (lv_at hl3 0 rfl) ?_
                      refine lv_bipush (pc := 222) (v := 59) E.1 E.2.1 dX12_readNeed_222 (by decide +kernel) ?_
                      refine cm_i (pc := 224) hw269 (rn_M (As := [.int 59]) (rest := []) E hw269 (s_readMark l D cI cJ _ M mr (upd (upd (upd (upd (upd (upd mi 22 nspot_245) 23 nfrom_246) 24 ntoken_247) 25 nvalue_248) 38 nreadFault_249) 39 nreadPlace_250) (va_up mf 45 g_268) mg 59 (by show 0 ≤ nfrom_246.toInt; omega) (by show nfrom_246.toInt ≤ nspot_245.toInt; omega) (by show nspot_245.toInt ≤ (mi 21).toInt; omega) (by show (mi 21).toInt ≤ 400; omega) (by show 0 ≤ ntoken_247.toInt; omega) (by show ntoken_247.toInt ≤ 4; omega) (by show ntoken_247.toInt ≤ 4 * nspot_245.toInt - 4 * nfrom_246.toInt; omega) (by show ((mf 26) 153).toInt = 32; omega) (show (∀ j : Nat, j < 154 → (mf 26) j = w0 j) from lf_words) (show (ntoken_247.toInt = 2 → nvalue_248.toInt = 30 → nfrom_246.toInt + 3 ≤ nspot_245.toInt) from hp_258)) (gdV q_1714 q_1716 q_64 q_162 q_1717) hdV_X12_readMark ⟨rfl, rfl⟩ ⟨(Nat.le_of_ble_eq_true rfl), (Nat.le_of_ble_eq_true rfl)⟩ ⟨(Nat.le_of_ble_eq_true rfl), (Nat.le_of_ble_eq_true rfl)⟩ 12 rfl rfl rfl rfl hl3.1 rfl (Nat.le_of_ble_eq_true rfl) dX12_readNeed_224) (fun r_274 u_273 H1 locs hp hw275 => ?_)
                      obtain ⟨nspot_276, nfrom_277, ntoken_278, nvalue_279, nreadFault_280, nreadPlace_281⟩ := u_273
                      generalize H1 = H at hw275 ⊢
                      have hw282 : WD D A s.heap (MW cI cJ M mr (upd (upd (upd (upd (upd (upd mi 22 nspot_276) 23 nfrom_277) 24 ntoken_278) 25 nvalue_279) 38 nreadFault_280) 39 nreadPlace_281) (va_up mf 45 g_268) mg) H locs := hw275
                      obtain ⟨hp_283, hp_284, hp_285, hp_286, hp_287, hp_288, hp_289, hp_290⟩ := hp
                      have hp_283 : 0 ≤ nfrom_277.toInt := hp_283
                      have hp_284 : nfrom_277.toInt ≤ nspot_276.toInt := hp_284
                      have hp_285 : nspot_276.toInt ≤ (mi 21).toInt := hp_285
                      have hp_286 : 0 ≤ ntoken_278.toInt := hp_286
                      have hp_287 : ntoken_278.toInt ≤ 4 := hp_287
                      have hp_288 : ntoken_278.toInt ≤ 4 * nspot_276.toInt - 4 * nfrom_277.toInt := hp_288
                      have hp_289 : (ntoken_278.toInt = 2 → nvalue_279.toInt = 30 → nfrom_277.toInt + 3 ≤ nspot_276.toInt) := hp_289
                      rcases hp_290 with rfl | ⟨rfl, ha_291⟩
                      · skip
                        exact em_i (w1 := (fun (u : Int32 × Int32 × Int32 × Int32 × Int32 × Int32 × (Nat → Int32)) => (MW cI cJ M mr (upd (upd (upd (upd (upd (upd mi 22 u.1) 23 u.2.1) 24 u.2.2.1) 25 u.2.2.2.1) 38 u.2.2.2.2.1) 39 u.2.2.2.2.2.1) (va_up mf 45 u.2.2.2.2.2.2) mg))) E hr hlk (nspot_276, nfrom_277, ntoken_278, nvalue_279, nreadFault_280, nreadPlace_281, g_268) hw282 ⟨(by show 0 ≤ nfrom_277.toInt; have k_0 : ((-1) : Int32).toInt = -1 := (by decide +kernel); omega), (by show nfrom_277.toInt ≤ nspot_276.toInt; have k_0 : ((-1) : Int32).toInt = -1 := (by decide +kernel); omega), (by show nspot_276.toInt ≤ (mi 21).toInt; have k_0 : ((-1) : Int32).toInt = -1 := (by decide +kernel); omega), (by show 0 ≤ ntoken_278.toInt; have k_0 : ((-1) : Int32).toInt = -1 := (by decide +kernel); omega), (by show ntoken_278.toInt ≤ 4; have k_0 : ((-1) : Int32).toInt = -1 := (by decide +kernel); omega), (by show ntoken_278.toInt ≤ 4 * nspot_276.toInt - 4 * nfrom_277.toInt; have k_0 : ((-1) : Int32).toInt = -1 := (by decide +kernel); omega), hp_289, (Or.inl rfl)⟩ (Nat.le_of_ble_eq_true rfl) (Nat.le_of_ble_eq_true rfl) dX12_readNeed_227
                      · skip
                        have ha_291 : nfrom_246.toInt + 1 ≤ nfrom_277.toInt := ha_291
                        exact em_i (w1 := (fun (u : Int32 × Int32 × Int32 × Int32 × Int32 × Int32 × (Nat → Int32)) => (MW cI cJ M mr (upd (upd (upd (upd (upd (upd mi 22 u.1) 23 u.2.1) 24 u.2.2.1) 25 u.2.2.2.1) 38 u.2.2.2.2.1) 39 u.2.2.2.2.2.1) (va_up mf 45 u.2.2.2.2.2.2) mg))) E hr hlk (nspot_276, nfrom_277, ntoken_278, nvalue_279, nreadFault_280, nreadPlace_281, g_268) hw282 ⟨(by show 0 ≤ nfrom_277.toInt; have k_0 : (0 : Int32).toInt = 0 := (by decide +kernel); omega), (by show nfrom_277.toInt ≤ nspot_276.toInt; have k_0 : (0 : Int32).toInt = 0 := (by decide +kernel); omega), (by show nspot_276.toInt ≤ (mi 21).toInt; have k_0 : (0 : Int32).toInt = 0 := (by decide +kernel); omega), (by show 0 ≤ ntoken_278.toInt; have k_0 : (0 : Int32).toInt = 0 := (by decide +kernel); omega), (by show ntoken_278.toInt ≤ 4; have k_0 : (0 : Int32).toInt = 0 := (by decide +kernel); omega), (by show ntoken_278.toInt ≤ 4 * nspot_276.toInt - 4 * nfrom_277.toInt; have k_0 : (0 : Int32).toInt = 0 := (by decide +kernel); omega), hp_289, (Or.inr (⟨rfl, (by show (mi 23).toInt + 1 ≤ nfrom_277.toInt; omega)⟩))⟩ (Nat.le_of_ble_eq_true rfl) (Nat.le_of_ble_eq_true rfl) dX12_readNeed_227

set_option maxHeartbeats 4000000 in
set_option maxRecDepth 100000 in
theorem s_readNeeds (l : Launch) (D : va_G) (cI cJ : ClassId) (sz M : Nat) (mr : Nat → Nat) (mi : Nat → Int32) (mf : Nat → Nat → Int32) (mg : Nat → Nat → Int64)  (h0 : 0 ≤ (mi 23).toInt) (h1 : (mi 23).toInt ≤ (mi 22).toInt) (h2 : (mi 22).toInt ≤ (mi 21).toInt) (h3 : (mi 21).toInt ≤ 400) (h4 : 0 ≤ (mi 24).toInt) (h5 : (mi 24).toInt ≤ 4) (h6 : (mi 24).toInt ≤ 4 * (mi 22).toInt - 4 * (mi 23).toInt) (h7 : ((mf 26) 153).toInt = 32) (h8 : 0 ≤ (mi 6).toInt ∧ (mi 6).toInt ≤ 10) (lf_words : (∀ j : Nat, j < 154 → (mf 26) j = w0 j)) (lf_again : ((mi 24).toInt = 2 → (mi 25).toInt = 30 → (mi 23).toInt + 3 ≤ (mi 22).toInt)) : Met l yX12_readNeeds (Cond.code yX12_readNeeds cX12_readNeeds 2 (some .int) :: GW) ({ frames := 6, cells := 0, slots := 0, locals := 149 } : Room) (va_Pc [.ref M] (PW D cI cJ sz (MW cI cJ M mr mi mf mg) xT)) (va_Qi (fun (r : Int32) (u : Int32 × Int32 × Int32 × Int32 × Int32 × Int32 × (Nat → Int32)) => (0 ≤ u.2.1.toInt) ∧ (u.2.1.toInt ≤ u.1.toInt) ∧ (u.1.toInt ≤ (mi 21).toInt) ∧ (0 ≤ u.2.2.1.toInt) ∧ (u.2.2.1.toInt ≤ 4) ∧ (u.2.2.1.toInt ≤ 4 * u.1.toInt - 4 * u.2.1.toInt) ∧ ((u.2.2.1.toInt = 2 → u.2.2.2.1.toInt = 30 → u.2.1.toInt + 3 ≤ u.1.toInt)) ∧ ((r = (-1)) ∨ (0 ≤ r.toInt ∧ r.toInt ≤ 10))) (fun u => QW D cI cJ (va_A (MW cI cJ M mr mi mf mg) sz) ((fun (u : Int32 × Int32 × Int32 × Int32 × Int32 × Int32 × (Nat → Int32)) => (MW cI cJ M mr (upd (upd (upd (upd (upd (upd mi 22 u.1) 23 u.2.1) 24 u.2.2.1) 25 u.2.2.2.1) 38 u.2.2.2.2.1) 39 u.2.2.2.2.2.1) (va_up mf 45 u.2.2.2.2.2.2) mg)) u)) (va_A (MW cI cJ M mr mi mf mg) sz)) 0 0 (va_A (MW cI cJ M mr mi mf mg) sz) := by
  refine mk_met (y := yX12_readNeeds) (bytes := cX12_readNeeds) (maxL := 2) (avs := [.ref M]) (WS := (MW cI cJ M mr mi mf mg)) (Qf := fun A => va_Qi (fun (r : Int32) (u : Int32 × Int32 × Int32 × Int32 × Int32 × Int32 × (Nat → Int32)) => (0 ≤ u.2.1.toInt) ∧ (u.2.1.toInt ≤ u.1.toInt) ∧ (u.1.toInt ≤ (mi 21).toInt) ∧ (0 ≤ u.2.2.1.toInt) ∧ (u.2.2.1.toInt ≤ 4) ∧ (u.2.2.1.toInt ≤ 4 * u.1.toInt - 4 * u.2.1.toInt) ∧ ((u.2.2.1.toInt = 2 → u.2.2.2.1.toInt = 30 → u.2.1.toInt + 3 ≤ u.1.toInt)) ∧ ((r = (-1)) ∨ (0 ≤ r.toInt ∧ r.toInt ≤ 10))) (fun u => QW D cI cJ A ((fun (u : Int32 × Int32 × Int32 × Int32 × Int32 × Int32 × (Nat → Int32)) => (MW cI cJ M mr (upd (upd (upd (upd (upd (upd mi 22 u.1) 23 u.2.1) 24 u.2.2.1) 25 u.2.2.2.1) 38 u.2.2.2.2.1) 39 u.2.2.2.2.2.1) (va_up mf 45 u.2.2.2.2.2.2) mg)) u)) A) (by decide) (Nat.le_of_ble_eq_true rfl) ?_
  intro p e s m below meth c A ls E hr hlk hnm hX hw1 hl2
  have hl3 : lv_has ls 2 [(0, .ref M)] := hl2
  refine lv_iconst (pc := 0) (v := 0) E.1 E.2.1 dX12_readNeeds_0 (by decide +kernel) ?_
  refine lv_istore_n (pc := 1) (lv' := [(1, .int 0), (0, .ref M)]) E.1 E.2.1 dX12_readNeeds_1 rfl hl3 (by decide) rfl (fun ls hl4 => ?_)
  have loop_5 : ∀ (k : Nat) (x_6 : Int32) (x_7 : Int32) (x_8 : Int32) (x_9 : Int32) (x_10 : Int32) (x_11 : Int32) (x_12 : Int32) (g_13 : Nat → Int32) (H : Heap) (locs : List Loc) (ls : Array Slot), (0 ≤ x_8.toInt) ∧ (x_8.toInt ≤ x_7.toInt) ∧ (x_7.toInt ≤ (mi 21).toInt) ∧ (0 ≤ x_9.toInt) ∧ (x_9.toInt ≤ 4) ∧ (x_9.toInt ≤ 4 * x_7.toInt - 4 * x_8.toInt) ∧ (0 ≤ x_6.toInt) ∧ (x_6.toInt ≤ 10) ∧ ((x_9.toInt = 2 → x_10.toInt = 30 → x_8.toInt + 3 ≤ x_7.toInt)) → (mi 21).toInt - x_8.toInt < (k : Int) → WD D A s.heap (MW cI cJ M mr (upd (upd (upd (upd (upd (upd mi 22 x_7) 23 x_8) 24 x_9) 25 x_10) 38 x_11) 39 x_12) (va_up mf 45 g_13) mg) H locs → lv_has ls 2 [(1, .int x_6), (0, .ref M)] → W p l e ({ frames := 6, cells := 0, slots := 0, locals := 149 } : Room) s m ([.ref M] : List Value).toArray below meth c H locs 0 0 (MQ below (va_Qi (fun (r : Int32) (u : Int32 × Int32 × Int32 × Int32 × Int32 × Int32 × (Nat → Int32)) => (0 ≤ u.2.1.toInt) ∧ (u.2.1.toInt ≤ u.1.toInt) ∧ (u.1.toInt ≤ (mi 21).toInt) ∧ (0 ≤ u.2.2.1.toInt) ∧ (u.2.2.1.toInt ≤ 4) ∧ (u.2.2.1.toInt ≤ 4 * u.1.toInt - 4 * u.2.1.toInt) ∧ ((u.2.2.1.toInt = 2 → u.2.2.2.1.toInt = 30 → u.2.1.toInt + 3 ≤ u.1.toInt)) ∧ ((r = (-1)) ∨ (0 ≤ r.toInt ∧ r.toInt ≤ 10))) (fun u => QW D cI cJ A ((fun (u : Int32 × Int32 × Int32 × Int32 × Int32 × Int32 × (Nat → Int32)) => (MW cI cJ M mr (upd (upd (upd (upd (upd (upd mi 22 u.1) 23 u.2.1) 24 u.2.2.1) 25 u.2.2.2.1) 38 u.2.2.2.2.1) 39 u.2.2.2.2.2.1) (va_up mf 45 u.2.2.2.2.2.2) mg)) u)) A) ([.ref M] : List Value).toArray s 0 0 A) (F0 m 2 ls []) := by
    intro k
    induction k with
    | zero =>
      intro x_6 x_7 x_8 x_9 x_10 x_11 x_12 g_13 _ _ _ hinv hm
      obtain ⟨hi_13_0, hi_13_1, hi_13_2, hi_13_3, hi_13_4, hi_13_5, hi_13_6, hi_13_7, hi_13_8⟩ := hinv
      exact absurd hm (by omega)
    | succ k ih_14 =>
      intro x_6 x_7 x_8 x_9 x_10 x_11 x_12 g_13 H locs ls hinv hm hw15 hl16
      obtain ⟨hi_13_0, hi_13_1, hi_13_2, hi_13_3, hi_13_4, hi_13_5, hi_13_6, hi_13_7, hi_13_8⟩ := hinv
      refine lv_aload_n (pc := 2) E.1 E.2.1 dX12_readNeeds_2 rfl (lv_at hl16 1 rfl) ?_
      refine lv_bipush (pc := 3) (v := 20) E.1 E.2.1 dX12_readNeeds_3 (by decide +kernel) ?_
      refine cm_i (pc := 5) hw15 (rn_M (As := [.int 20]) (rest := []) E hw15 (s_isWord3 l D cI cJ _ M mr (upd (upd (upd (upd (upd (upd mi 22 x_7) 23 x_8) 24 x_9) 25 x_10) 38 x_11) 39 x_12) (va_up mf 45 g_13) mg 20) (gdV q_1694 q_1696 q_59 q_162 q_1697) hdV_X12_isWord ⟨rfl, rfl⟩ ⟨(Nat.le_of_ble_eq_true rfl), (Nat.le_of_ble_eq_true rfl)⟩ ⟨(Nat.le_of_ble_eq_true rfl), (Nat.le_of_ble_eq_true rfl)⟩ 12 rfl rfl rfl rfl hl16.1 rfl (Nat.le_of_ble_eq_true rfl) dX12_readNeeds_5) (fun r_18 u_17 H1 locs hp hw19 => ?_)
      generalize H1 = H at hw19 ⊢
      have hw20 : WD D A s.heap (MW cI cJ M mr (upd (upd (upd (upd (upd (upd mi 22 x_7) 23 x_8) 24 x_9) 25 x_10) 38 x_11) 39 x_12) (va_up mf 45 g_13) mg) H locs := hw19
      have hp_21 := hp
      rcases hp_21 with ⟨rfl, ha_22, ha_23⟩ | ⟨rfl, ha_24⟩ | ⟨rfl, ha_25⟩
      · skip
        have ha_22 : x_9.toInt = 2 := ha_22
        have ha_23 : x_10.toInt = (20 : Int32).toInt := ha_23
        rw [show (20 : Int32).toInt = 20 from by decide +kernel] at ha_23
        refine lv_if_eq (pc := 8) (tgt := 50) E.1 E.2.1 dX12_readNeeds_8 (by decide) (fun c_26 => absurd c_26 (mneE (a := 1) (b := 0) (by decide +kernel) (by decide +kernel) (by omega))) (fun _ => ?_)
        refine lv_iload_n (pc := 11) E.1 E.2.1 dX12_readNeeds_11 rfl (lv_at hl16 0 rfl) ?_
        refine lv_bipush (pc := 12) (v := 10) E.1 E.2.1 dX12_readNeeds_12 (by decide +kernel) ?_
        refine lv_icmp_ne (pc := 14) (tgt := 23) E.1 E.2.1 dX12_readNeeds_14 (by decide) (fun c_27 => ?_) (fun c_27 => ?_)
        · skip
          have hc_27 := neE (a := x_6.toInt) (b := 10) rfl (by decide +kernel) c_27
          refine lv_aload_n (pc := 23) E.1 E.2.1 dX12_readNeeds_23 rfl (lv_at hl16 1 rfl) ?_
          refine cm_v (pc := 24) hw20 (rn_M (As := []) (rest := []) E hw20 (s_reads2 l D cI cJ _ M mr (upd (upd (upd (upd (upd (upd mi 22 x_7) 23 x_8) 24 x_9) 25 x_10) 38 x_11) 39 x_12) (va_up mf 45 g_13) mg (by show 0 ≤ x_7.toInt; omega) (by show x_7.toInt ≤ (mi 21).toInt; omega) (by show (mi 21).toInt ≤ 400; omega) (by show ((mf 26) 153).toInt = 32; omega) (show (∀ j : Nat, j < 154 → (mf 26) j = w0 j) from lf_words)) (gdV q_1666 q_1668 q_52 q_162 q_1669) hdV_X12_reads ⟨rfl, rfl⟩ ⟨(Nat.le_of_ble_eq_true rfl), (Nat.le_of_ble_eq_true rfl)⟩ ⟨(Nat.le_of_ble_eq_true rfl), (Nat.le_of_ble_eq_true rfl)⟩ 12 rfl rfl rfl rfl hl16.1 rfl (Nat.le_of_ble_eq_true rfl) dX12_readNeeds_24) (fun u_28 H1 locs hp hw30 => ?_)
          obtain ⟨nspot_31, nfrom_32, ntoken_33, nvalue_34⟩ := u_28
          generalize H1 = H at hw30 ⊢
          have hw35 : WD D A s.heap (MW cI cJ M mr (upd (upd (upd (upd (upd (upd mi 22 nspot_31) 23 nfrom_32) 24 ntoken_33) 25 nvalue_34) 38 x_11) 39 x_12) (va_up mf 45 g_13) mg) H locs := hw30
          obtain ⟨hp_36, hp_37, hp_38, hp_39, hp_40, hp_41, hp_42, hp_43⟩ := hp
          have hp_36 : 0 ≤ nfrom_32.toInt := hp_36
          have hp_37 : nfrom_32.toInt ≤ nspot_31.toInt := hp_37
          have hp_38 : nspot_31.toInt ≤ (mi 21).toInt := hp_38
          have hp_39 : 0 ≤ ntoken_33.toInt := hp_39
          have hp_40 : ntoken_33.toInt ≤ 4 := hp_40
          have hp_41 : ntoken_33.toInt ≤ 4 * nspot_31.toInt - 4 * nfrom_32.toInt := hp_41
          have hp_42 : x_7.toInt ≤ nfrom_32.toInt := hp_42
          have hp_43 : (ntoken_33.toInt = 2 → nvalue_34.toInt = 30 → nfrom_32.toInt + 3 ≤ nspot_31.toInt) := hp_43
          refine lv_aload_n (pc := 27) E.1 E.2.1 dX12_readNeeds_27 rfl (lv_at hl16 1 rfl) ?_
          refine lv_bipush (pc := 28) (v := 50) E.1 E.2.1 dX12_readNeeds_28 (by decide +kernel) ?_
          refine lv_iconst (pc := 30) (v := 5) E.1 E.2.1 dX12_readNeeds_30 (by decide +kernel) ?_
          refine lv_iload_n (pc := 31) E.1 E.2.1 dX12_readNeeds_31 rfl (lv_at hl16 0 rfl) ?_
          refine lv_imul (pc := 32) E.1 E.2.1 dX12_readNeeds_32 ?_
          refine lv_topi (fun v_44 ev_44 => ?_)
          have hv_44 : v_44.toInt = 5 * x_6.toInt := by rw [ev_44]; exact mulE (by decide +kernel) rfl (by omega)
          refine lv_iadd (pc := 33) E.1 E.2.1 dX12_readNeeds_33 ?_
          refine lv_topi (fun v_45 ev_45 => ?_)
          have hv_45 : v_45.toInt = 50 + v_44.toInt := by rw [ev_45]; exact addE (by decide +kernel) rfl (by omega)
          refine cm_i (pc := 34) hw35 (rn_M (As := [.int v_45]) (rest := []) E hw35 (s_readNeed l D cI cJ _ M mr (upd (upd (upd (upd (upd (upd mi 22 nspot_31) 23 nfrom_32) 24 ntoken_33) 25 nvalue_34) 38 x_11) 39 x_12) (va_up mf 45 g_13) mg v_45 (by show 0 ≤ nfrom_32.toInt; omega) (by show nfrom_32.toInt ≤ nspot_31.toInt; omega) (by show nspot_31.toInt ≤ (mi 21).toInt; omega) (by show (mi 21).toInt ≤ 400; omega) (by show 0 ≤ ntoken_33.toInt; omega) (by show ntoken_33.toInt ≤ 4; omega) (by show ntoken_33.toInt ≤ 4 * nspot_31.toInt - 4 * nfrom_32.toInt; omega) (by show ((mf 26) 153).toInt = 32; omega) (by show 0 ≤ (mi 6).toInt ∧ (mi 6).toInt ≤ 10; omega) (by show 50 ≤ v_45.toInt ∧ v_45.toInt ≤ 95; omega) (show (∀ j : Nat, j < 154 → (mf 26) j = w0 j) from lf_words) (show (ntoken_33.toInt = 2 → nvalue_34.toInt = 30 → nfrom_32.toInt + 3 ≤ nspot_31.toInt) from hp_43)) (gdV q_1726 q_1728 q_67 q_162 q_1729) hdV_X12_readNeed ⟨rfl, rfl⟩ ⟨(Nat.le_of_ble_eq_true rfl), (Nat.le_of_ble_eq_true rfl)⟩ ⟨(Nat.le_of_ble_eq_true rfl), (Nat.le_of_ble_eq_true rfl)⟩ 12 rfl rfl rfl rfl hl16.1 rfl (Nat.le_of_ble_eq_true rfl) dX12_readNeeds_34) (fun r_47 u_46 H1 locs hp hw48 => ?_)
          obtain ⟨nspot_49, nfrom_50, ntoken_51, nvalue_52, nreadFault_53, nreadPlace_54, gneeds_55⟩ := u_46
          generalize H1 = H at hw48 ⊢
          have hw56 : WD D A s.heap (MW cI cJ M mr (upd (upd (upd (upd (upd (upd mi 22 nspot_49) 23 nfrom_50) 24 ntoken_51) 25 nvalue_52) 38 nreadFault_53) 39 nreadPlace_54) (va_up mf 45 gneeds_55) mg) H locs := hw48
          obtain ⟨hp_57, hp_58, hp_59, hp_60, hp_61, hp_62, hp_63, hp_64⟩ := hp
          have hp_57 : 0 ≤ nfrom_50.toInt := hp_57
          have hp_58 : nfrom_50.toInt ≤ nspot_49.toInt := hp_58
          have hp_59 : nspot_49.toInt ≤ (mi 21).toInt := hp_59
          have hp_60 : 0 ≤ ntoken_51.toInt := hp_60
          have hp_61 : ntoken_51.toInt ≤ 4 := hp_61
          have hp_62 : ntoken_51.toInt ≤ 4 * nspot_49.toInt - 4 * nfrom_50.toInt := hp_62
          have hp_63 : (ntoken_51.toInt = 2 → nvalue_52.toInt = 30 → nfrom_50.toInt + 3 ≤ nspot_49.toInt) := hp_63
          rcases hp_64 with rfl | ⟨rfl, ha_65⟩
          · skip
            refine lv_iconst (pc := 37) (v := (-1)) E.1 E.2.1 dX12_readNeeds_37 (by decide +kernel) ?_
            refine lv_icmp_ne (pc := 38) (tgt := 43) E.1 E.2.1 dX12_readNeeds_38 (by decide) (fun c_66 => absurd (meqE (a := (-1)) (b := (-1)) (by decide +kernel) (by decide +kernel) (by omega)) c_66) (fun _ => ?_)
            refine lv_iconst (pc := 41) (v := (-1)) E.1 E.2.1 dX12_readNeeds_41 (by decide +kernel) ?_
            exact em_i (w1 := (fun (u : Int32 × Int32 × Int32 × Int32 × Int32 × Int32 × (Nat → Int32)) => (MW cI cJ M mr (upd (upd (upd (upd (upd (upd mi 22 u.1) 23 u.2.1) 24 u.2.2.1) 25 u.2.2.2.1) 38 u.2.2.2.2.1) 39 u.2.2.2.2.2.1) (va_up mf 45 u.2.2.2.2.2.2) mg))) E hr hlk (nspot_49, nfrom_50, ntoken_51, nvalue_52, nreadFault_53, nreadPlace_54, gneeds_55) hw56 ⟨(by show 0 ≤ nfrom_50.toInt; have k_0 : ((-1) : Int32).toInt = -1 := (by decide +kernel); omega), (by show nfrom_50.toInt ≤ nspot_49.toInt; have k_0 : ((-1) : Int32).toInt = -1 := (by decide +kernel); omega), (by show nspot_49.toInt ≤ (mi 21).toInt; have k_0 : ((-1) : Int32).toInt = -1 := (by decide +kernel); omega), (by show 0 ≤ ntoken_51.toInt; have k_0 : ((-1) : Int32).toInt = -1 := (by decide +kernel); omega), (by show ntoken_51.toInt ≤ 4; have k_0 : ((-1) : Int32).toInt = -1 := (by decide +kernel); omega), (by show ntoken_51.toInt ≤ 4 * nspot_49.toInt - 4 * nfrom_50.toInt; have k_0 : ((-1) : Int32).toInt = -1 := (by decide +kernel); omega), hp_63, (Or.inl rfl)⟩ (Nat.le_of_ble_eq_true rfl) (Nat.le_of_ble_eq_true rfl) dX12_readNeeds_42
          · skip
            have ha_65 : nfrom_32.toInt + 1 ≤ nfrom_50.toInt := ha_65
            refine lv_iconst (pc := 37) (v := (-1)) E.1 E.2.1 dX12_readNeeds_37 (by decide +kernel) ?_
            refine lv_icmp_ne (pc := 38) (tgt := 43) E.1 E.2.1 dX12_readNeeds_38 (by decide) (fun _ => ?_) (fun c_67 => absurd c_67 (mneE (a := 0) (b := (-1)) (by decide +kernel) (by decide +kernel) (by omega)))
            refine lv_iload_n (pc := 43) E.1 E.2.1 dX12_readNeeds_43 rfl (lv_at hl16 0 rfl) ?_
            refine lv_iconst (pc := 44) (v := 1) E.1 E.2.1 dX12_readNeeds_44 (by decide +kernel) ?_
            refine lv_iadd (pc := 45) E.1 E.2.1 dX12_readNeeds_45 ?_
            refine lv_topi (fun v_68 ev_68 => ?_)
            have hv_68 : v_68.toInt = x_6.toInt + 1 := by rw [ev_68]; exact addE rfl (by decide +kernel) (by omega)
            refine lv_istore_n (pc := 46) (lv' := [(1, .int v_68), (0, .ref M)]) E.1 E.2.1 dX12_readNeeds_46 rfl hl16 (by decide) rfl (fun ls hl69 => ?_)
            refine lv_goto (pc := 47) (tgt := 2) E.1 E.2.1 dX12_readNeeds_47 (by decide) ?_
            exact ih_14 v_68 nspot_49 nfrom_50 ntoken_51 nvalue_52 nreadFault_53 nreadPlace_54 gneeds_55 _ _ _ ⟨(by show 0 ≤ nfrom_50.toInt; omega), (by show nfrom_50.toInt ≤ nspot_49.toInt; omega), (by show nspot_49.toInt ≤ (mi 21).toInt; omega), (by show 0 ≤ ntoken_51.toInt; omega), (by show ntoken_51.toInt ≤ 4; omega), (by show ntoken_51.toInt ≤ 4 * nspot_49.toInt - 4 * nfrom_50.toInt; omega), (by show 0 ≤ v_68.toInt; omega), (by show v_68.toInt ≤ 10; omega), (show (ntoken_51.toInt = 2 → nvalue_52.toInt = 30 → nfrom_50.toInt + 3 ≤ nspot_49.toInt) from hp_63)⟩ (by omega) hw56 (lv_sub hl69 [0, 1] rfl)
        · skip
          have hc_27 := eqE (a := x_6.toInt) (b := 10) rfl (by decide +kernel) c_27
          refine lv_aload_n (pc := 17) E.1 E.2.1 dX12_readNeeds_17 rfl (lv_at hl16 1 rfl) ?_
          refine lv_iconst (pc := 18) (v := 3) E.1 E.2.1 dX12_readNeeds_18 (by decide +kernel) ?_
          refine cm_i (pc := 19) hw20 (rn_M (As := [.int 3]) (rest := []) E hw20 (s_errs2 l D cI cJ _ M mr (upd (upd (upd (upd (upd (upd mi 22 x_7) 23 x_8) 24 x_9) 25 x_10) 38 x_11) 39 x_12) (va_up mf 45 g_13) mg 3) (gdV q_1698 q_1700 q_60 q_162 q_1701) hdV_X12_errs ⟨rfl, rfl⟩ ⟨(Nat.le_of_ble_eq_true rfl), (Nat.le_of_ble_eq_true rfl)⟩ ⟨(Nat.le_of_ble_eq_true rfl), (Nat.le_of_ble_eq_true rfl)⟩ 12 rfl rfl rfl rfl hl16.1 rfl (Nat.le_of_ble_eq_true rfl) dX12_readNeeds_19) (fun r_71 u_70 H1 locs hp hw72 => ?_)
          obtain ⟨nreadFault_73, nreadPlace_74⟩ := u_70
          generalize H1 = H at hw72 ⊢
          have hw75 : WD D A s.heap (MW cI cJ M mr (upd (upd (upd (upd (upd (upd mi 22 x_7) 23 x_8) 24 x_9) 25 x_10) 38 nreadFault_73) 39 nreadPlace_74) (va_up mf 45 g_13) mg) H locs := hw72
          have hp_76 := hp
          rcases hp_76 with rfl
          · skip
            exact em_i (w1 := (fun (u : Int32 × Int32 × Int32 × Int32 × Int32 × Int32 × (Nat → Int32)) => (MW cI cJ M mr (upd (upd (upd (upd (upd (upd mi 22 u.1) 23 u.2.1) 24 u.2.2.1) 25 u.2.2.2.1) 38 u.2.2.2.2.1) 39 u.2.2.2.2.2.1) (va_up mf 45 u.2.2.2.2.2.2) mg))) E hr hlk (x_7, x_8, x_9, x_10, nreadFault_73, nreadPlace_74, g_13) hw75 ⟨(by show 0 ≤ x_8.toInt; have k_0 : ((-1) : Int32).toInt = -1 := (by decide +kernel); omega), (by show x_8.toInt ≤ x_7.toInt; have k_0 : ((-1) : Int32).toInt = -1 := (by decide +kernel); omega), (by show x_7.toInt ≤ (mi 21).toInt; have k_0 : ((-1) : Int32).toInt = -1 := (by decide +kernel); omega), (by show 0 ≤ x_9.toInt; have k_0 : ((-1) : Int32).toInt = -1 := (by decide +kernel); omega), (by show x_9.toInt ≤ 4; have k_0 : ((-1) : Int32).toInt = -1 := (by decide +kernel); omega), (by show x_9.toInt ≤ 4 * x_7.toInt - 4 * x_8.toInt; have k_0 : ((-1) : Int32).toInt = -1 := (by decide +kernel); omega), hi_13_8, (Or.inl rfl)⟩ (Nat.le_of_ble_eq_true rfl) (Nat.le_of_ble_eq_true rfl) dX12_readNeeds_22
      · skip
        have ha_24 : ¬ x_9.toInt = 2 := ha_24
        refine lv_if_eq (pc := 8) (tgt := 50) E.1 E.2.1 dX12_readNeeds_8 (by decide) (fun _ => ?_) (fun c_77 => absurd (meqE (a := 0) (b := 0) (by decide +kernel) (by decide +kernel) (by omega)) c_77)
        refine lv_aload_n (pc := 50) E.1 E.2.1 dX12_readNeeds_50 rfl (lv_at hl16 1 rfl) ?_
        refine x_get (pc := 51) (T := TX12) (N := 70) (ci := 12) (v := .int x_9) E hw20 inX12 0 24 q_1423 rfl rfl (by decide) rfl rfl dX12_readNeeds_51 ?_
        refine lv_if_ne (pc := 54) (tgt := 61) E.1 E.2.1 dX12_readNeeds_54 (by decide) (fun c_78 => ?_) (fun c_78 => ?_)
        · skip
          have hc_78 := neE (a := x_9.toInt) (b := 0) rfl (by decide +kernel) c_78
          refine lv_aload_n (pc := 61) E.1 E.2.1 dX12_readNeeds_61 rfl (lv_at hl16 1 rfl) ?_
          refine lv_iconst (pc := 62) (v := 1) E.1 E.2.1 dX12_readNeeds_62 (by decide +kernel) ?_
          refine cm_i (pc := 63) hw20 (rn_M (As := [.int 1]) (rest := []) E hw20 (s_errs2 l D cI cJ _ M mr (upd (upd (upd (upd (upd (upd mi 22 x_7) 23 x_8) 24 x_9) 25 x_10) 38 x_11) 39 x_12) (va_up mf 45 g_13) mg 1) (gdV q_1698 q_1700 q_60 q_162 q_1701) hdV_X12_errs ⟨rfl, rfl⟩ ⟨(Nat.le_of_ble_eq_true rfl), (Nat.le_of_ble_eq_true rfl)⟩ ⟨(Nat.le_of_ble_eq_true rfl), (Nat.le_of_ble_eq_true rfl)⟩ 12 rfl rfl rfl rfl hl16.1 rfl (Nat.le_of_ble_eq_true rfl) dX12_readNeeds_63) (fun r_80 u_79 H1 locs hp hw81 => ?_)
          obtain ⟨nreadFault_82, nreadPlace_83⟩ := u_79
          generalize H1 = H at hw81 ⊢
          have hw84 : WD D A s.heap (MW cI cJ M mr (upd (upd (upd (upd (upd (upd mi 22 x_7) 23 x_8) 24 x_9) 25 x_10) 38 nreadFault_82) 39 nreadPlace_83) (va_up mf 45 g_13) mg) H locs := hw81
          have hp_85 := hp
          rcases hp_85 with rfl
          · skip
            exact em_i (w1 := (fun (u : Int32 × Int32 × Int32 × Int32 × Int32 × Int32 × (Nat → Int32)) => (MW cI cJ M mr (upd (upd (upd (upd (upd (upd mi 22 u.1) 23 u.2.1) 24 u.2.2.1) 25 u.2.2.2.1) 38 u.2.2.2.2.1) 39 u.2.2.2.2.2.1) (va_up mf 45 u.2.2.2.2.2.2) mg))) E hr hlk (x_7, x_8, x_9, x_10, nreadFault_82, nreadPlace_83, g_13) hw84 ⟨(by show 0 ≤ x_8.toInt; have k_0 : ((-1) : Int32).toInt = -1 := (by decide +kernel); omega), (by show x_8.toInt ≤ x_7.toInt; have k_0 : ((-1) : Int32).toInt = -1 := (by decide +kernel); omega), (by show x_7.toInt ≤ (mi 21).toInt; have k_0 : ((-1) : Int32).toInt = -1 := (by decide +kernel); omega), (by show 0 ≤ x_9.toInt; have k_0 : ((-1) : Int32).toInt = -1 := (by decide +kernel); omega), (by show x_9.toInt ≤ 4; have k_0 : ((-1) : Int32).toInt = -1 := (by decide +kernel); omega), (by show x_9.toInt ≤ 4 * x_7.toInt - 4 * x_8.toInt; have k_0 : ((-1) : Int32).toInt = -1 := (by decide +kernel); omega), hi_13_8, (Or.inl rfl)⟩ (Nat.le_of_ble_eq_true rfl) (Nat.le_of_ble_eq_true rfl) dX12_readNeeds_66
        · skip
          have hc_78 := eqE (a := x_9.toInt) (b := 0) rfl (by decide +kernel) c_78
          refine lv_iload_n (pc := 57) E.1 E.2.1 dX12_readNeeds_57 rfl (lv_at hl16 0 rfl) ?_
          refine lv_goto (pc := 58) (tgt := 66) E.1 E.2.1 dX12_readNeeds_58 (by decide) ?_
          exact em_i (w1 := (fun (u : Int32 × Int32 × Int32 × Int32 × Int32 × Int32 × (Nat → Int32)) => (MW cI cJ M mr (upd (upd (upd (upd (upd (upd mi 22 u.1) 23 u.2.1) 24 u.2.2.1) 25 u.2.2.2.1) 38 u.2.2.2.2.1) 39 u.2.2.2.2.2.1) (va_up mf 45 u.2.2.2.2.2.2) mg))) E hr hlk (x_7, x_8, x_9, x_10, x_11, x_12, g_13) hw20 ⟨(by show 0 ≤ x_8.toInt; omega), (by show x_8.toInt ≤ x_7.toInt; omega), (by show x_7.toInt ≤ (mi 21).toInt; omega), (by show 0 ≤ x_9.toInt; omega), (by show x_9.toInt ≤ 4; omega), (by show x_9.toInt ≤ 4 * x_7.toInt - 4 * x_8.toInt; omega), hi_13_8, (Or.inr (⟨(by show 0 ≤ x_6.toInt; omega), (by show x_6.toInt ≤ 10; omega)⟩))⟩ (Nat.le_of_ble_eq_true rfl) (Nat.le_of_ble_eq_true rfl) dX12_readNeeds_66
      · skip
        have ha_25 : ¬ x_10.toInt = (20 : Int32).toInt := ha_25
        rw [show (20 : Int32).toInt = 20 from by decide +kernel] at ha_25
        refine lv_if_eq (pc := 8) (tgt := 50) E.1 E.2.1 dX12_readNeeds_8 (by decide) (fun _ => ?_) (fun c_86 => absurd (meqE (a := 0) (b := 0) (by decide +kernel) (by decide +kernel) (by omega)) c_86)
        refine lv_aload_n (pc := 50) E.1 E.2.1 dX12_readNeeds_50 rfl (lv_at hl16 1 rfl) ?_
        refine x_get (pc := 51) (T := TX12) (N := 70) (ci := 12) (v := .int x_9) E hw20 inX12 0 24 q_1423 rfl rfl (by decide) rfl rfl dX12_readNeeds_51 ?_
        refine lv_if_ne (pc := 54) (tgt := 61) E.1 E.2.1 dX12_readNeeds_54 (by decide) (fun c_87 => ?_) (fun c_87 => ?_)
        · skip
          have hc_87 := neE (a := x_9.toInt) (b := 0) rfl (by decide +kernel) c_87
          refine lv_aload_n (pc := 61) E.1 E.2.1 dX12_readNeeds_61 rfl (lv_at hl16 1 rfl) ?_
          refine lv_iconst (pc := 62) (v := 1) E.1 E.2.1 dX12_readNeeds_62 (by decide +kernel) ?_
          refine cm_i (pc := 63) hw20 (rn_M (As := [.int 1]) (rest := []) E hw20 (s_errs2 l D cI cJ _ M mr (upd (upd (upd (upd (upd (upd mi 22 x_7) 23 x_8) 24 x_9) 25 x_10) 38 x_11) 39 x_12) (va_up mf 45 g_13) mg 1) (gdV q_1698 q_1700 q_60 q_162 q_1701) hdV_X12_errs ⟨rfl, rfl⟩ ⟨(Nat.le_of_ble_eq_true rfl), (Nat.le_of_ble_eq_true rfl)⟩ ⟨(Nat.le_of_ble_eq_true rfl), (Nat.le_of_ble_eq_true rfl)⟩ 12 rfl rfl rfl rfl hl16.1 rfl (Nat.le_of_ble_eq_true rfl) dX12_readNeeds_63) (fun r_89 u_88 H1 locs hp hw90 => ?_)
          obtain ⟨nreadFault_91, nreadPlace_92⟩ := u_88
          generalize H1 = H at hw90 ⊢
          have hw93 : WD D A s.heap (MW cI cJ M mr (upd (upd (upd (upd (upd (upd mi 22 x_7) 23 x_8) 24 x_9) 25 x_10) 38 nreadFault_91) 39 nreadPlace_92) (va_up mf 45 g_13) mg) H locs := hw90
          have hp_94 := hp
          rcases hp_94 with rfl
          · skip
            exact em_i (w1 := (fun (u : Int32 × Int32 × Int32 × Int32 × Int32 × Int32 × (Nat → Int32)) => (MW cI cJ M mr (upd (upd (upd (upd (upd (upd mi 22 u.1) 23 u.2.1) 24 u.2.2.1) 25 u.2.2.2.1) 38 u.2.2.2.2.1) 39 u.2.2.2.2.2.1) (va_up mf 45 u.2.2.2.2.2.2) mg))) E hr hlk (x_7, x_8, x_9, x_10, nreadFault_91, nreadPlace_92, g_13) hw93 ⟨(by show 0 ≤ x_8.toInt; have k_0 : ((-1) : Int32).toInt = -1 := (by decide +kernel); omega), (by show x_8.toInt ≤ x_7.toInt; have k_0 : ((-1) : Int32).toInt = -1 := (by decide +kernel); omega), (by show x_7.toInt ≤ (mi 21).toInt; have k_0 : ((-1) : Int32).toInt = -1 := (by decide +kernel); omega), (by show 0 ≤ x_9.toInt; have k_0 : ((-1) : Int32).toInt = -1 := (by decide +kernel); omega), (by show x_9.toInt ≤ 4; have k_0 : ((-1) : Int32).toInt = -1 := (by decide +kernel); omega), (by show x_9.toInt ≤ 4 * x_7.toInt - 4 * x_8.toInt; have k_0 : ((-1) : Int32).toInt = -1 := (by decide +kernel); omega), hi_13_8, (Or.inl rfl)⟩ (Nat.le_of_ble_eq_true rfl) (Nat.le_of_ble_eq_true rfl) dX12_readNeeds_66
        · skip
          have hc_87 := eqE (a := x_9.toInt) (b := 0) rfl (by decide +kernel) c_87
          refine lv_iload_n (pc := 57) E.1 E.2.1 dX12_readNeeds_57 rfl (lv_at hl16 0 rfl) ?_
          refine lv_goto (pc := 58) (tgt := 66) E.1 E.2.1 dX12_readNeeds_58 (by decide) ?_
          exact em_i (w1 := (fun (u : Int32 × Int32 × Int32 × Int32 × Int32 × Int32 × (Nat → Int32)) => (MW cI cJ M mr (upd (upd (upd (upd (upd (upd mi 22 u.1) 23 u.2.1) 24 u.2.2.1) 25 u.2.2.2.1) 38 u.2.2.2.2.1) 39 u.2.2.2.2.2.1) (va_up mf 45 u.2.2.2.2.2.2) mg))) E hr hlk (x_7, x_8, x_9, x_10, x_11, x_12, g_13) hw20 ⟨(by show 0 ≤ x_8.toInt; omega), (by show x_8.toInt ≤ x_7.toInt; omega), (by show x_7.toInt ≤ (mi 21).toInt; omega), (by show 0 ≤ x_9.toInt; omega), (by show x_9.toInt ≤ 4; omega), (by show x_9.toInt ≤ 4 * x_7.toInt - 4 * x_8.toInt; omega), hi_13_8, (Or.inr (⟨(by show 0 ≤ x_6.toInt; omega), (by show x_6.toInt ≤ 10; omega)⟩))⟩ (Nat.le_of_ble_eq_true rfl) (Nat.le_of_ble_eq_true rfl) dX12_readNeeds_66
  exact loop_5 (Int.toNat ((mi 21).toInt - (mi 23).toInt) + 1) 0 (mi 22) (mi 23) (mi 24) (mi 25) (mi 38) (mi 39) (mf 45) _ _ _ ⟨(by show 0 ≤ (mi 23).toInt; omega), (by show (mi 23).toInt ≤ (mi 22).toInt; omega), (by show (mi 22).toInt ≤ (mi 21).toInt; omega), (by show 0 ≤ (mi 24).toInt; omega), (by show (mi 24).toInt ≤ 4; omega), (by show (mi 24).toInt ≤ 4 * (mi 22).toInt - 4 * (mi 23).toInt; omega), (by show 0 ≤ (0 : Int32).toInt; have k_0 : (0 : Int32).toInt = 0 := (by decide +kernel); omega), (by show (0 : Int32).toInt ≤ 10; have k_0 : (0 : Int32).toInt = 0 := (by decide +kernel); omega), (show ((mi 24).toInt = 2 → (mi 25).toInt = 30 → (mi 23).toInt + 3 ≤ (mi 22).toInt) from lf_again)⟩ (by have k_0 : (0 : Int32).toInt = 0 := (by decide +kernel); omega) hw1 (lv_sub hl4 [0, 1] rfl)

set_option maxHeartbeats 4000000 in
set_option maxRecDepth 100000 in
theorem s_emitsStep (l : Launch) (D : va_G) (cI cJ : ClassId) (sz M : Nat) (mr : Nat → Nat) (mi : Nat → Int32) (mf : Nat → Nat → Int32) (mg : Nat → Nat → Int64) (z_what : Int32) (z_how : Int32) (h0 : 0 ≤ (mi 48).toInt ∧ (mi 48).toInt ≤ 139) : Met l yX12_emitsStep (Cond.code yX12_emitsStep cX12_emitsStep 3 none :: GW) ({ frames := 1, cells := 0, slots := 0, locals := 40 } : Room) (va_Pc [.ref M, .int z_what, .int z_how] (PW D cI cJ sz (MW cI cJ M mr mi mf mg) xT)) (va_Qv (fun (u : (Nat → Int32) × (Nat → Int32) × Int32) => (u.2.2.toInt = (mi 48).toInt + 1) ∧ (EM (mf 46) (mf 47) u.1 u.2.1 (((mi 48).toInt).toNat) z_what z_how)) (fun u => QW D cI cJ (va_A (MW cI cJ M mr mi mf mg) sz) ((fun (u : (Nat → Int32) × (Nat → Int32) × Int32) => (MW cI cJ M mr (upd mi 48 u.2.2) (va_up (va_up mf 46 u.1) 47 u.2.1) mg)) u)) (va_A (MW cI cJ M mr mi mf mg) sz)) 0 0 (va_A (MW cI cJ M mr mi mf mg) sz) := by
  refine mk_met (y := yX12_emitsStep) (bytes := cX12_emitsStep) (maxL := 3) (avs := [.ref M, .int z_what, .int z_how]) (WS := (MW cI cJ M mr mi mf mg)) (Qf := fun A => va_Qv (fun (u : (Nat → Int32) × (Nat → Int32) × Int32) => (u.2.2.toInt = (mi 48).toInt + 1) ∧ (EM (mf 46) (mf 47) u.1 u.2.1 (((mi 48).toInt).toNat) z_what z_how)) (fun u => QW D cI cJ A ((fun (u : (Nat → Int32) × (Nat → Int32) × Int32) => (MW cI cJ M mr (upd mi 48 u.2.2) (va_up (va_up mf 46 u.1) 47 u.2.1) mg)) u)) A) (by decide) (Nat.le_of_ble_eq_true rfl) ?_
  intro p e s m below meth c A ls E hr hlk hnm hX hw1 hl2
  have hl3 : lv_has ls 3 [(0, .ref M), (1, .int z_what), (2, .int z_how)] := hl2
  refine lv_aload_n (pc := 0) E.1 E.2.1 dX12_emitsStep_0 rfl (lv_at hl3 0 rfl) ?_
  refine x_get (pc := 1) (T := TX12) (N := 70) (ci := 12) (v := .ref (mr 46)) E hw1 inX12 0 46 q_1445 rfl rfl (by decide) rfl rfl dX12_emitsStep_1 ?_
  refine lv_aload_n (pc := 4) E.1 E.2.1 dX12_emitsStep_4 rfl (lv_at hl3 0 rfl) ?_
  refine x_get (pc := 5) (T := TX12) (N := 70) (ci := 12) (v := .int (mi 48)) E hw1 inX12 0 48 q_1447 rfl rfl (by decide) rfl rfl dX12_emitsStep_5 ?_
  refine lv_iload_n (pc := 8) E.1 E.2.1 dX12_emitsStep_8 rfl (lv_at hl3 1 rfl) ?_
  refine x_iastG (pc := 9) (f := (mf 46)) (wf := fun g => (MW cI cJ M mr mi (va_up mf 46 g) mg)) E hw1 23 rfl (inbE (a := (mi 48).toInt) rfl (by omega)) (fun _ => rfl) dX12_emitsStep_9 (fun g_4 H locs eg_4 hw5 => ?_)
  refine lv_aload_n (pc := 10) E.1 E.2.1 dX12_emitsStep_10 rfl (lv_at hl3 0 rfl) ?_
  refine x_get (pc := 11) (T := TX12) (N := 70) (ci := 12) (v := .ref (mr 47)) E hw5 inX12 0 47 q_1446 rfl rfl (by decide) rfl rfl dX12_emitsStep_11 ?_
  refine lv_aload_n (pc := 14) E.1 E.2.1 dX12_emitsStep_14 rfl (lv_at hl3 0 rfl) ?_
  refine x_get (pc := 15) (T := TX12) (N := 70) (ci := 12) (v := .int (mi 48)) E hw5 inX12 0 48 q_1447 rfl rfl (by decide) rfl rfl dX12_emitsStep_15 ?_
  refine lv_iload_n (pc := 18) E.1 E.2.1 dX12_emitsStep_18 rfl (lv_at hl3 2 rfl) ?_
  refine x_iastG (pc := 19) (f := (mf 47)) (wf := fun g => (MW cI cJ M mr mi (va_up (va_up mf 46 g_4) 47 g) mg)) E hw5 24 rfl (inbE (a := (mi 48).toInt) rfl (by omega)) (fun _ => rfl) dX12_emitsStep_19 (fun g_6 H locs eg_6 hw7 => ?_)
  refine lv_aload_n (pc := 20) E.1 E.2.1 dX12_emitsStep_20 rfl (lv_at hl3 0 rfl) ?_
  refine lv_aload_n (pc := 21) E.1 E.2.1 dX12_emitsStep_21 rfl (lv_at hl3 0 rfl) ?_
  refine x_get (pc := 22) (T := TX12) (N := 70) (ci := 12) (v := .int (mi 48)) E hw7 inX12 0 48 q_1447 rfl rfl (by decide) rfl rfl dX12_emitsStep_22 ?_
  refine lv_iconst (pc := 25) (v := 1) E.1 E.2.1 dX12_emitsStep_25 (by decide +kernel) ?_
  refine lv_iadd (pc := 26) E.1 E.2.1 dX12_emitsStep_26 ?_
  refine lv_topi (fun v_8 ev_8 => ?_)
  have hv_8 : v_8.toInt = (mi 48).toInt + 1 := by rw [ev_8]; exact addE rfl (by decide +kernel) (by omega)
  refine x_put (pc := 27) (T := TX12) (N := 70) (ci := 12) (ws' := (MW cI cJ M mr (upd mi 48 v_8) (va_up (va_up mf 46 g_4) 47 g_6) mg)) E hw7 inX12 tyX12_ok nmX12 0 48 q_1447 rfl rfl (by decide) rfl rfl rfl rfl (Nat.le_of_ble_eq_true rfl) rfl dX12_emitsStep_27 (fun H locs hw9 => ?_)
  exact em_v (w1 := (fun (u : (Nat → Int32) × (Nat → Int32) × Int32) => (MW cI cJ M mr (upd mi 48 u.2.2) (va_up (va_up mf 46 u.1) 47 u.2.1) mg))) E hr hlk (g_4, g_6, v_8) hw9 ⟨(by show v_8.toInt = (mi 48).toInt + 1; omega), (show EM (mf 46) (mf 47) g_4 g_6 (((mi 48).toInt).toNat) z_what z_how from (EM_of eg_4 eg_6 (by omega) (by omega)))⟩ (Nat.le_of_ble_eq_true rfl) (Nat.le_of_ble_eq_true rfl) dX12_emitsStep_30

set_option maxHeartbeats 4000000 in
set_option maxRecDepth 100000 in
theorem s_readStep (l : Launch) (D : va_G) (cI cJ : ClassId) (sz M : Nat) (mr : Nat → Nat) (mi : Nat → Int32) (mf : Nat → Nat → Int32) (mg : Nat → Nat → Int64)  (h0 : 0 ≤ (mi 23).toInt) (h1 : (mi 23).toInt ≤ (mi 22).toInt) (h2 : (mi 22).toInt ≤ (mi 21).toInt) (h3 : (mi 21).toInt ≤ 400) (h4 : 0 ≤ (mi 24).toInt) (h5 : (mi 24).toInt ≤ 4) (h6 : (mi 24).toInt ≤ 4 * (mi 22).toInt - 4 * (mi 23).toInt) (h7 : ((mf 26) 153).toInt = 32) (h8 : 0 ≤ (mi 6).toInt ∧ (mi 6).toInt ≤ 10) (h9 : 0 ≤ (mi 48).toInt) (h10 : 3 * (mi 48).toInt ≤ (mi 23).toInt) (h11 : (mi 24).toInt = 2) (lf_words : (∀ j : Nat, j < 154 → (mf 26) j = w0 j)) (lf_again : ((mi 24).toInt = 2 → (mi 25).toInt = 30 → (mi 23).toInt + 3 ≤ (mi 22).toInt)) : Met l yX12_readStep (Cond.code yX12_readStep cX12_readStep 3 (some .int) :: GW) ({ frames := 5, cells := 0, slots := 0, locals := 128 } : Room) (va_Pc [.ref M] (PW D cI cJ sz (MW cI cJ M mr mi mf mg) xT)) (va_Qi (fun (r : Int32) (u : Int32 × Int32 × Int32 × Int32 × Int32 × Int32 × (Nat → Int32) × (Nat → Int32) × Int32) => (0 ≤ u.2.1.toInt) ∧ (u.2.1.toInt ≤ u.1.toInt) ∧ (u.1.toInt ≤ (mi 21).toInt) ∧ (0 ≤ u.2.2.1.toInt) ∧ (u.2.2.1.toInt ≤ 4) ∧ (u.2.2.1.toInt ≤ 4 * u.1.toInt - 4 * u.2.1.toInt) ∧ ((u.2.2.1.toInt = 2 → u.2.2.2.1.toInt = 30 → u.2.1.toInt + 3 ≤ u.1.toInt)) ∧ (r = 0 → (∀ t : Nat, RSP (mf 46) (mf 47) (mi 6).toInt (((mi 48).toInt).toNat) t → RSP u.2.2.2.2.2.2.1 u.2.2.2.2.2.2.2.1 (mi 6).toInt ((u.2.2.2.2.2.2.2.2.toInt).toNat) t)) ∧ ((r = (-1)) ∨ (r = 0 ∧ (mi 23).toInt + 3 ≤ u.2.1.toInt ∧ u.2.2.2.2.2.2.2.2.toInt = (mi 48).toInt + 1))) (fun u => QW D cI cJ (va_A (MW cI cJ M mr mi mf mg) sz) ((fun (u : Int32 × Int32 × Int32 × Int32 × Int32 × Int32 × (Nat → Int32) × (Nat → Int32) × Int32) => (MW cI cJ M mr (upd (upd (upd (upd (upd (upd (upd mi 22 u.1) 23 u.2.1) 24 u.2.2.1) 25 u.2.2.2.1) 38 u.2.2.2.2.1) 39 u.2.2.2.2.2.1) 48 u.2.2.2.2.2.2.2.2) (va_up (va_up mf 46 u.2.2.2.2.2.2.1) 47 u.2.2.2.2.2.2.2.1) mg)) u)) (va_A (MW cI cJ M mr mi mf mg) sz)) 0 0 (va_A (MW cI cJ M mr mi mf mg) sz) := by
  refine mk_met (y := yX12_readStep) (bytes := cX12_readStep) (maxL := 3) (avs := [.ref M]) (WS := (MW cI cJ M mr mi mf mg)) (Qf := fun A => va_Qi (fun (r : Int32) (u : Int32 × Int32 × Int32 × Int32 × Int32 × Int32 × (Nat → Int32) × (Nat → Int32) × Int32) => (0 ≤ u.2.1.toInt) ∧ (u.2.1.toInt ≤ u.1.toInt) ∧ (u.1.toInt ≤ (mi 21).toInt) ∧ (0 ≤ u.2.2.1.toInt) ∧ (u.2.2.1.toInt ≤ 4) ∧ (u.2.2.1.toInt ≤ 4 * u.1.toInt - 4 * u.2.1.toInt) ∧ ((u.2.2.1.toInt = 2 → u.2.2.2.1.toInt = 30 → u.2.1.toInt + 3 ≤ u.1.toInt)) ∧ (r = 0 → (∀ t : Nat, RSP (mf 46) (mf 47) (mi 6).toInt (((mi 48).toInt).toNat) t → RSP u.2.2.2.2.2.2.1 u.2.2.2.2.2.2.2.1 (mi 6).toInt ((u.2.2.2.2.2.2.2.2.toInt).toNat) t)) ∧ ((r = (-1)) ∨ (r = 0 ∧ (mi 23).toInt + 3 ≤ u.2.1.toInt ∧ u.2.2.2.2.2.2.2.2.toInt = (mi 48).toInt + 1))) (fun u => QW D cI cJ A ((fun (u : Int32 × Int32 × Int32 × Int32 × Int32 × Int32 × (Nat → Int32) × (Nat → Int32) × Int32) => (MW cI cJ M mr (upd (upd (upd (upd (upd (upd (upd mi 22 u.1) 23 u.2.1) 24 u.2.2.1) 25 u.2.2.2.1) 38 u.2.2.2.2.1) 39 u.2.2.2.2.2.1) 48 u.2.2.2.2.2.2.2.2) (va_up (va_up mf 46 u.2.2.2.2.2.2.1) 47 u.2.2.2.2.2.2.2.1) mg)) u)) A) (by decide) (Nat.le_of_ble_eq_true rfl) ?_
  intro p e s m below meth c A ls E hr hlk hnm hX hw1 hl2
  have hl3 : lv_has ls 3 [(0, .ref M)] := hl2
  refine lv_aload_n (pc := 0) E.1 E.2.1 dX12_readStep_0 rfl (lv_at hl3 0 rfl) ?_
  refine lv_bipush (pc := 1) (v := 28) E.1 E.2.1 dX12_readStep_1 (by decide +kernel) ?_
  refine cm_i (pc := 3) hw1 (rn_M (As := [.int 28]) (rest := []) E hw1 (s_isWord3 l D cI cJ _ M mr mi mf mg 28) (gdV q_1694 q_1696 q_59 q_162 q_1697) hdV_X12_isWord ⟨rfl, rfl⟩ ⟨(Nat.le_of_ble_eq_true rfl), (Nat.le_of_ble_eq_true rfl)⟩ ⟨(Nat.le_of_ble_eq_true rfl), (Nat.le_of_ble_eq_true rfl)⟩ 12 rfl rfl rfl rfl hl3.1 rfl (Nat.le_of_ble_eq_true rfl) dX12_readStep_3) (fun r_5 u_4 H1 locs hp hw6 => ?_)
  generalize H1 = H at hw6 ⊢
  have hw7 : WD D A s.heap (MW cI cJ M mr mi mf mg) H locs := hw6
  have hp_8 := hp
  rcases hp_8 with ⟨rfl, ha_9, ha_10⟩ | ⟨rfl, ha_11⟩ | ⟨rfl, ha_12⟩
  · skip
    have ha_9 : (mi 24).toInt = 2 := ha_9
    have ha_10 : (mi 25).toInt = (28 : Int32).toInt := ha_10
    rw [show (28 : Int32).toInt = 28 from by decide +kernel] at ha_10
    refine lv_istore_n (pc := 6) (lv' := [(1, .int 1), (0, .ref M)]) E.1 E.2.1 dX12_readStep_6 rfl hl3 (by decide) rfl (fun ls hl13 => ?_)
    refine lv_aload_n (pc := 7) E.1 E.2.1 dX12_readStep_7 rfl (lv_at hl13 1 rfl) ?_
    refine cm_v (pc := 8) hw7 (rn_M (As := []) (rest := []) E hw7 (s_reads2 l D cI cJ _ M mr mi mf mg (by show 0 ≤ (mi 22).toInt; omega) (by show (mi 22).toInt ≤ (mi 21).toInt; omega) (by show (mi 21).toInt ≤ 400; omega) (by show ((mf 26) 153).toInt = 32; omega) (show (∀ j : Nat, j < 154 → (mf 26) j = w0 j) from lf_words)) (gdV q_1666 q_1668 q_52 q_162 q_1669) hdV_X12_reads ⟨rfl, rfl⟩ ⟨(Nat.le_of_ble_eq_true rfl), (Nat.le_of_ble_eq_true rfl)⟩ ⟨(Nat.le_of_ble_eq_true rfl), (Nat.le_of_ble_eq_true rfl)⟩ 12 rfl rfl rfl rfl hl13.1 rfl (Nat.le_of_ble_eq_true rfl) dX12_readStep_8) (fun u_14 H1 locs hp hw16 => ?_)
    obtain ⟨nspot_17, nfrom_18, ntoken_19, nvalue_20⟩ := u_14
    generalize H1 = H at hw16 ⊢
    have hw21 : WD D A s.heap (MW cI cJ M mr (upd (upd (upd (upd mi 22 nspot_17) 23 nfrom_18) 24 ntoken_19) 25 nvalue_20) mf mg) H locs := hw16
    obtain ⟨hp_22, hp_23, hp_24, hp_25, hp_26, hp_27, hp_28, hp_29⟩ := hp
    have hp_22 : 0 ≤ nfrom_18.toInt := hp_22
    have hp_23 : nfrom_18.toInt ≤ nspot_17.toInt := hp_23
    have hp_24 : nspot_17.toInt ≤ (mi 21).toInt := hp_24
    have hp_25 : 0 ≤ ntoken_19.toInt := hp_25
    have hp_26 : ntoken_19.toInt ≤ 4 := hp_26
    have hp_27 : ntoken_19.toInt ≤ 4 * nspot_17.toInt - 4 * nfrom_18.toInt := hp_27
    have hp_28 : (mi 22).toInt ≤ nfrom_18.toInt := hp_28
    have hp_29 : (ntoken_19.toInt = 2 → nvalue_20.toInt = 30 → nfrom_18.toInt + 3 ≤ nspot_17.toInt) := hp_29
    refine lv_iload_n (pc := 11) E.1 E.2.1 dX12_readStep_11 rfl (lv_at hl13 0 rfl) ?_
    refine lv_if_eq (pc := 12) (tgt := 29) E.1 E.2.1 dX12_readStep_12 (by decide) (fun c_30 => absurd c_30 (mneE (a := 1) (b := 0) (by decide +kernel) (by decide +kernel) (by omega))) (fun _ => ?_)
    refine lv_aload_n (pc := 15) E.1 E.2.1 dX12_readStep_15 rfl (lv_at hl13 1 rfl) ?_
    refine lv_iconst (pc := 16) (v := 0) E.1 E.2.1 dX12_readStep_16 (by decide +kernel) ?_
    refine lv_aload_n (pc := 17) E.1 E.2.1 dX12_readStep_17 rfl (lv_at hl13 1 rfl) ?_
    refine x_get (pc := 18) (T := TX12) (N := 70) (ci := 12) (v := .int (mi 6)) E hw21 inX12 0 6 q_1405 rfl rfl (by decide) rfl rfl dX12_readStep_18 ?_
    refine lv_iconst (pc := 21) (v := 1) E.1 E.2.1 dX12_readStep_21 (by decide +kernel) ?_
    refine lv_isub (pc := 22) E.1 E.2.1 dX12_readStep_22 ?_
    refine lv_topi (fun v_31 ev_31 => ?_)
    have hv_31 : v_31.toInt = (mi 6).toInt - 1 := by rw [ev_31]; exact subE rfl (by decide +kernel) (by omega)
    refine cm_i (pc := 23) hw21 (rn_M (As := [.int 0, .int v_31]) (rest := []) E hw21 (s_readNumber l D cI cJ _ M mr (upd (upd (upd (upd mi 22 nspot_17) 23 nfrom_18) 24 ntoken_19) 25 nvalue_20) mf mg 0 v_31 (by show 0 ≤ nfrom_18.toInt; omega) (by show nfrom_18.toInt ≤ nspot_17.toInt; omega) (by show nspot_17.toInt ≤ (mi 21).toInt; omega) (by show (mi 21).toInt ≤ 400; omega) (by show 0 ≤ ntoken_19.toInt; omega) (by show ntoken_19.toInt ≤ 4; omega) (by show ntoken_19.toInt ≤ 4 * nspot_17.toInt - 4 * nfrom_18.toInt; omega) (by show ((mf 26) 153).toInt = 32; omega) (show (∀ j : Nat, j < 154 → (mf 26) j = w0 j) from lf_words) (show (ntoken_19.toInt = 2 → nvalue_20.toInt = 30 → nfrom_18.toInt + 3 ≤ nspot_17.toInt) from hp_29)) (gdV q_1706 q_1708 q_62 q_162 q_1709) hdV_X12_readNumber ⟨rfl, rfl⟩ ⟨(Nat.le_of_ble_eq_true rfl), (Nat.le_of_ble_eq_true rfl)⟩ ⟨(Nat.le_of_ble_eq_true rfl), (Nat.le_of_ble_eq_true rfl)⟩ 12 rfl rfl rfl rfl hl13.1 rfl (Nat.le_of_ble_eq_true rfl) dX12_readStep_23) (fun r_33 u_32 H1 locs hp hw34 => ?_)
    obtain ⟨nspot_35, nfrom_36, ntoken_37, nvalue_38, nreadFault_39, nreadPlace_40⟩ := u_32
    generalize H1 = H at hw34 ⊢
    have hw41 : WD D A s.heap (MW cI cJ M mr (upd (upd (upd (upd (upd (upd mi 22 nspot_35) 23 nfrom_36) 24 ntoken_37) 25 nvalue_38) 38 nreadFault_39) 39 nreadPlace_40) mf mg) H locs := hw34
    obtain ⟨hp_42, hp_43, hp_44, hp_45, hp_46, hp_47, hp_48, hp_49⟩ := hp
    have hp_42 : 0 ≤ nfrom_36.toInt := hp_42
    have hp_43 : nfrom_36.toInt ≤ nspot_35.toInt := hp_43
    have hp_44 : nspot_35.toInt ≤ (mi 21).toInt := hp_44
    have hp_45 : 0 ≤ ntoken_37.toInt := hp_45
    have hp_46 : ntoken_37.toInt ≤ 4 := hp_46
    have hp_47 : ntoken_37.toInt ≤ 4 * nspot_35.toInt - 4 * nfrom_36.toInt := hp_47
    have hp_48 : (ntoken_37.toInt = 2 → nvalue_38.toInt = 30 → nfrom_36.toInt + 3 ≤ nspot_35.toInt) := hp_48
    rcases hp_49 with rfl | ⟨ha_50, ha_51, ha_52⟩
    · skip
      refine lv_goto (pc := 26) (tgt := 36) E.1 E.2.1 dX12_readStep_26 (by decide) ?_
      refine lv_istore_n (pc := 36) (lv' := [(2, .int (-1)), (1, .int 1), (0, .ref M)]) E.1 E.2.1 dX12_readStep_36 rfl hl13 (by decide) rfl (fun ls hl53 => ?_)
      refine lv_iload_n (pc := 37) E.1 E.2.1 dX12_readStep_37 rfl (lv_at hl53 0 rfl) ?_
      refine lv_iconst (pc := 38) (v := (-1)) E.1 E.2.1 dX12_readStep_38 (by decide +kernel) ?_
      refine lv_icmp_eq (pc := 39) (tgt := 52) E.1 E.2.1 dX12_readStep_39 (by decide) (fun _ => ?_) (fun c_54 => absurd (meqE (a := (-1)) (b := (-1)) (by decide +kernel) (by decide +kernel) (by omega)) c_54)
      refine lv_iconst (pc := 52) (v := (-1)) E.1 E.2.1 dX12_readStep_52 (by decide +kernel) ?_
      exact em_i (w1 := (fun (u : Int32 × Int32 × Int32 × Int32 × Int32 × Int32 × (Nat → Int32) × (Nat → Int32) × Int32) => (MW cI cJ M mr (upd (upd (upd (upd (upd (upd (upd mi 22 u.1) 23 u.2.1) 24 u.2.2.1) 25 u.2.2.2.1) 38 u.2.2.2.2.1) 39 u.2.2.2.2.2.1) 48 u.2.2.2.2.2.2.2.2) (va_up (va_up mf 46 u.2.2.2.2.2.2.1) 47 u.2.2.2.2.2.2.2.1) mg))) E hr hlk (nspot_35, nfrom_36, ntoken_37, nvalue_38, nreadFault_39, nreadPlace_40, (mf 46), (mf 47), (mi 48)) hw41 ⟨(by show 0 ≤ nfrom_36.toInt; have k_0 : ((-1) : Int32).toInt = -1 := (by decide +kernel); omega), (by show nfrom_36.toInt ≤ nspot_35.toInt; have k_0 : ((-1) : Int32).toInt = -1 := (by decide +kernel); omega), (by show nspot_35.toInt ≤ (mi 21).toInt; have k_0 : ((-1) : Int32).toInt = -1 := (by decide +kernel); omega), (by show 0 ≤ ntoken_37.toInt; have k_0 : ((-1) : Int32).toInt = -1 := (by decide +kernel); omega), (by show ntoken_37.toInt ≤ 4; have k_0 : ((-1) : Int32).toInt = -1 := (by decide +kernel); omega), (by show ntoken_37.toInt ≤ 4 * nspot_35.toInt - 4 * nfrom_36.toInt; have k_0 : ((-1) : Int32).toInt = -1 := (by decide +kernel); omega), hp_48, (fun h => absurd h (by decide +kernel)), (Or.inl rfl)⟩ (Nat.le_of_ble_eq_true rfl) (Nat.le_of_ble_eq_true rfl) dX12_readStep_53
    · skip
      have ha_50 : (0 : Int32).toInt ≤ r_33.toInt := ha_50
      rw [show (0 : Int32).toInt = 0 from by decide +kernel] at ha_50
      have ha_51 : r_33.toInt ≤ v_31.toInt := ha_51
      have ha_52 : nfrom_18.toInt + 1 ≤ nfrom_36.toInt := ha_52
      refine lv_goto (pc := 26) (tgt := 36) E.1 E.2.1 dX12_readStep_26 (by decide) ?_
      refine lv_istore_n (pc := 36) (lv' := [(2, .int r_33), (1, .int 1), (0, .ref M)]) E.1 E.2.1 dX12_readStep_36 rfl hl13 (by decide) rfl (fun ls hl55 => ?_)
      refine lv_iload_n (pc := 37) E.1 E.2.1 dX12_readStep_37 rfl (lv_at hl55 0 rfl) ?_
      refine lv_iconst (pc := 38) (v := (-1)) E.1 E.2.1 dX12_readStep_38 (by decide +kernel) ?_
      refine lv_icmp_eq (pc := 39) (tgt := 52) E.1 E.2.1 dX12_readStep_39 (by decide) (fun c_56 => absurd c_56 (mneE (a := r_33.toInt) (b := (-1)) rfl (by decide +kernel) (by omega))) (fun _ => ?_)
      refine lv_aload_n (pc := 42) E.1 E.2.1 dX12_readStep_42 rfl (lv_at hl55 2 rfl) ?_
      refine lv_bipush (pc := 43) (v := 59) E.1 E.2.1 dX12_readStep_43 (by decide +kernel) ?_
      refine cm_i (pc := 45) hw41 (rn_M (As := [.int 59]) (rest := []) E hw41 (s_readMark l D cI cJ _ M mr (upd (upd (upd (upd (upd (upd mi 22 nspot_35) 23 nfrom_36) 24 ntoken_37) 25 nvalue_38) 38 nreadFault_39) 39 nreadPlace_40) mf mg 59 (by show 0 ≤ nfrom_36.toInt; omega) (by show nfrom_36.toInt ≤ nspot_35.toInt; omega) (by show nspot_35.toInt ≤ (mi 21).toInt; omega) (by show (mi 21).toInt ≤ 400; omega) (by show 0 ≤ ntoken_37.toInt; omega) (by show ntoken_37.toInt ≤ 4; omega) (by show ntoken_37.toInt ≤ 4 * nspot_35.toInt - 4 * nfrom_36.toInt; omega) (by show ((mf 26) 153).toInt = 32; omega) (show (∀ j : Nat, j < 154 → (mf 26) j = w0 j) from lf_words) (show (ntoken_37.toInt = 2 → nvalue_38.toInt = 30 → nfrom_36.toInt + 3 ≤ nspot_35.toInt) from hp_48)) (gdV q_1714 q_1716 q_64 q_162 q_1717) hdV_X12_readMark ⟨rfl, rfl⟩ ⟨(Nat.le_of_ble_eq_true rfl), (Nat.le_of_ble_eq_true rfl)⟩ ⟨(Nat.le_of_ble_eq_true rfl), (Nat.le_of_ble_eq_true rfl)⟩ 12 rfl rfl rfl rfl hl55.1 rfl (Nat.le_of_ble_eq_true rfl) dX12_readStep_45) (fun r_58 u_57 H1 locs hp hw59 => ?_)
      obtain ⟨nspot_60, nfrom_61, ntoken_62, nvalue_63, nreadFault_64, nreadPlace_65⟩ := u_57
      generalize H1 = H at hw59 ⊢
      have hw66 : WD D A s.heap (MW cI cJ M mr (upd (upd (upd (upd (upd (upd mi 22 nspot_60) 23 nfrom_61) 24 ntoken_62) 25 nvalue_63) 38 nreadFault_64) 39 nreadPlace_65) mf mg) H locs := hw59
      obtain ⟨hp_67, hp_68, hp_69, hp_70, hp_71, hp_72, hp_73, hp_74⟩ := hp
      have hp_67 : 0 ≤ nfrom_61.toInt := hp_67
      have hp_68 : nfrom_61.toInt ≤ nspot_60.toInt := hp_68
      have hp_69 : nspot_60.toInt ≤ (mi 21).toInt := hp_69
      have hp_70 : 0 ≤ ntoken_62.toInt := hp_70
      have hp_71 : ntoken_62.toInt ≤ 4 := hp_71
      have hp_72 : ntoken_62.toInt ≤ 4 * nspot_60.toInt - 4 * nfrom_61.toInt := hp_72
      have hp_73 : (ntoken_62.toInt = 2 → nvalue_63.toInt = 30 → nfrom_61.toInt + 3 ≤ nspot_60.toInt) := hp_73
      rcases hp_74 with rfl | ⟨rfl, ha_75⟩
      · skip
        refine lv_iconst (pc := 48) (v := (-1)) E.1 E.2.1 dX12_readStep_48 (by decide +kernel) ?_
        refine lv_icmp_ne (pc := 49) (tgt := 54) E.1 E.2.1 dX12_readStep_49 (by decide) (fun c_76 => absurd (meqE (a := (-1)) (b := (-1)) (by decide +kernel) (by decide +kernel) (by omega)) c_76) (fun _ => ?_)
        refine lv_iconst (pc := 52) (v := (-1)) E.1 E.2.1 dX12_readStep_52 (by decide +kernel) ?_
        exact em_i (w1 := (fun (u : Int32 × Int32 × Int32 × Int32 × Int32 × Int32 × (Nat → Int32) × (Nat → Int32) × Int32) => (MW cI cJ M mr (upd (upd (upd (upd (upd (upd (upd mi 22 u.1) 23 u.2.1) 24 u.2.2.1) 25 u.2.2.2.1) 38 u.2.2.2.2.1) 39 u.2.2.2.2.2.1) 48 u.2.2.2.2.2.2.2.2) (va_up (va_up mf 46 u.2.2.2.2.2.2.1) 47 u.2.2.2.2.2.2.2.1) mg))) E hr hlk (nspot_60, nfrom_61, ntoken_62, nvalue_63, nreadFault_64, nreadPlace_65, (mf 46), (mf 47), (mi 48)) hw66 ⟨(by show 0 ≤ nfrom_61.toInt; have k_0 : ((-1) : Int32).toInt = -1 := (by decide +kernel); omega), (by show nfrom_61.toInt ≤ nspot_60.toInt; have k_0 : ((-1) : Int32).toInt = -1 := (by decide +kernel); omega), (by show nspot_60.toInt ≤ (mi 21).toInt; have k_0 : ((-1) : Int32).toInt = -1 := (by decide +kernel); omega), (by show 0 ≤ ntoken_62.toInt; have k_0 : ((-1) : Int32).toInt = -1 := (by decide +kernel); omega), (by show ntoken_62.toInt ≤ 4; have k_0 : ((-1) : Int32).toInt = -1 := (by decide +kernel); omega), (by show ntoken_62.toInt ≤ 4 * nspot_60.toInt - 4 * nfrom_61.toInt; have k_0 : ((-1) : Int32).toInt = -1 := (by decide +kernel); omega), hp_73, (fun h => absurd h (by decide +kernel)), (Or.inl rfl)⟩ (Nat.le_of_ble_eq_true rfl) (Nat.le_of_ble_eq_true rfl) dX12_readStep_53
      · skip
        have ha_75 : nfrom_36.toInt + 1 ≤ nfrom_61.toInt := ha_75
        refine lv_iconst (pc := 48) (v := (-1)) E.1 E.2.1 dX12_readStep_48 (by decide +kernel) ?_
        refine lv_icmp_ne (pc := 49) (tgt := 54) E.1 E.2.1 dX12_readStep_49 (by decide) (fun _ => ?_) (fun c_77 => absurd c_77 (mneE (a := 0) (b := (-1)) (by decide +kernel) (by decide +kernel) (by omega)))
        refine lv_aload_n (pc := 54) E.1 E.2.1 dX12_readStep_54 rfl (lv_at hl55 2 rfl) ?_
        refine lv_iload_n (pc := 55) E.1 E.2.1 dX12_readStep_55 rfl (lv_at hl55 1 rfl) ?_
        refine lv_if_eq (pc := 56) (tgt := 63) E.1 E.2.1 dX12_readStep_56 (by decide) (fun c_78 => absurd c_78 (mneE (a := 1) (b := 0) (by decide +kernel) (by decide +kernel) (by omega))) (fun _ => ?_)
        refine lv_iconst (pc := 59) (v := 0) E.1 E.2.1 dX12_readStep_59 (by decide +kernel) ?_
        refine lv_goto (pc := 60) (tgt := 64) E.1 E.2.1 dX12_readStep_60 (by decide) ?_
        refine lv_iload_n (pc := 64) E.1 E.2.1 dX12_readStep_64 rfl (lv_at hl55 0 rfl) ?_
        refine cm_v (pc := 65) hw66 (rn_M (As := [.int 0, .int r_33]) (rest := []) E hw66 (s_emitsStep l D cI cJ _ M mr (upd (upd (upd (upd (upd (upd mi 22 nspot_60) 23 nfrom_61) 24 ntoken_62) 25 nvalue_63) 38 nreadFault_64) 39 nreadPlace_65) mf mg 0 r_33 (by show 0 ≤ (mi 48).toInt ∧ (mi 48).toInt ≤ 139; omega)) (gdV q_1746 q_1748 q_72 q_162 q_1749) hdV_X12_emitsStep ⟨rfl, rfl⟩ ⟨(Nat.le_of_ble_eq_true rfl), (Nat.le_of_ble_eq_true rfl)⟩ ⟨(Nat.le_of_ble_eq_true rfl), (Nat.le_of_ble_eq_true rfl)⟩ 12 rfl rfl rfl rfl hl55.1 rfl (Nat.le_of_ble_eq_true rfl) dX12_readStep_65) (fun u_79 H1 locs hp hw81 => ?_)
        obtain ⟨gstepOp_82, gstepHow_83, nsteps_84⟩ := u_79
        generalize H1 = H at hw81 ⊢
        have hw85 : WD D A s.heap (MW cI cJ M mr (upd (upd (upd (upd (upd (upd (upd mi 22 nspot_60) 23 nfrom_61) 24 ntoken_62) 25 nvalue_63) 38 nreadFault_64) 39 nreadPlace_65) 48 nsteps_84) (va_up (va_up mf 46 gstepOp_82) 47 gstepHow_83) mg) H locs := hw81
        obtain ⟨hp_86, hp_87⟩ := hp
        have hp_86 : nsteps_84.toInt = (mi 48).toInt + 1 := hp_86
        have hp_87 : EM (mf 46) (mf 47) gstepOp_82 gstepHow_83 (((mi 48).toInt).toNat) (0 : Int32) r_33 := hp_87
        refine lv_iconst (pc := 68) (v := 0) E.1 E.2.1 dX12_readStep_68 (by decide +kernel) ?_
        exact em_i (w1 := (fun (u : Int32 × Int32 × Int32 × Int32 × Int32 × Int32 × (Nat → Int32) × (Nat → Int32) × Int32) => (MW cI cJ M mr (upd (upd (upd (upd (upd (upd (upd mi 22 u.1) 23 u.2.1) 24 u.2.2.1) 25 u.2.2.2.1) 38 u.2.2.2.2.1) 39 u.2.2.2.2.2.1) 48 u.2.2.2.2.2.2.2.2) (va_up (va_up mf 46 u.2.2.2.2.2.2.1) 47 u.2.2.2.2.2.2.2.1) mg))) E hr hlk (nspot_60, nfrom_61, ntoken_62, nvalue_63, nreadFault_64, nreadPlace_65, gstepOp_82, gstepHow_83, nsteps_84) hw85 ⟨(by show 0 ≤ nfrom_61.toInt; have k_0 : (0 : Int32).toInt = 0 := (by decide +kernel); omega), (by show nfrom_61.toInt ≤ nspot_60.toInt; have k_0 : (0 : Int32).toInt = 0 := (by decide +kernel); omega), (by show nspot_60.toInt ≤ (mi 21).toInt; have k_0 : (0 : Int32).toInt = 0 := (by decide +kernel); omega), (by show 0 ≤ ntoken_62.toInt; have k_0 : (0 : Int32).toInt = 0 := (by decide +kernel); omega), (by show ntoken_62.toInt ≤ 4; have k_0 : (0 : Int32).toInt = 0 := (by decide +kernel); omega), (by show ntoken_62.toInt ≤ 4 * nspot_60.toInt - 4 * nfrom_61.toInt; have k_0 : (0 : Int32).toInt = 0 := (by decide +kernel); omega), hp_73, (fun _ => (show (∀ t : Nat, RSP (mf 46) (mf 47) (mi 6).toInt (((mi 48).toInt).toNat) t → RSP gstepOp_82 gstepHow_83 (mi 6).toInt ((nsteps_84.toInt).toNat) t) from (fun t q => RSP_snoc q hp_87 (Or.inl ⟨rfl, (by omega), rfl⟩) (by omega)))), (Or.inr (⟨rfl, (by show (mi 23).toInt + 3 ≤ nfrom_61.toInt; omega), (by show nsteps_84.toInt = (mi 48).toInt + 1; omega)⟩))⟩ (Nat.le_of_ble_eq_true rfl) (Nat.le_of_ble_eq_true rfl) dX12_readStep_69
  · skip
    have ha_11 : ¬ (mi 24).toInt = 2 := ha_11
    exfalso; omega
  · skip
    have ha_12 : ¬ (mi 25).toInt = (28 : Int32).toInt := ha_12
    rw [show (28 : Int32).toInt = 28 from by decide +kernel] at ha_12
    refine lv_istore_n (pc := 6) (lv' := [(1, .int 0), (0, .ref M)]) E.1 E.2.1 dX12_readStep_6 rfl hl3 (by decide) rfl (fun ls hl88 => ?_)
    refine lv_aload_n (pc := 7) E.1 E.2.1 dX12_readStep_7 rfl (lv_at hl88 1 rfl) ?_
    refine cm_v (pc := 8) hw7 (rn_M (As := []) (rest := []) E hw7 (s_reads2 l D cI cJ _ M mr mi mf mg (by show 0 ≤ (mi 22).toInt; omega) (by show (mi 22).toInt ≤ (mi 21).toInt; omega) (by show (mi 21).toInt ≤ 400; omega) (by show ((mf 26) 153).toInt = 32; omega) (show (∀ j : Nat, j < 154 → (mf 26) j = w0 j) from lf_words)) (gdV q_1666 q_1668 q_52 q_162 q_1669) hdV_X12_reads ⟨rfl, rfl⟩ ⟨(Nat.le_of_ble_eq_true rfl), (Nat.le_of_ble_eq_true rfl)⟩ ⟨(Nat.le_of_ble_eq_true rfl), (Nat.le_of_ble_eq_true rfl)⟩ 12 rfl rfl rfl rfl hl88.1 rfl (Nat.le_of_ble_eq_true rfl) dX12_readStep_8) (fun u_89 H1 locs hp hw91 => ?_)
    obtain ⟨nspot_92, nfrom_93, ntoken_94, nvalue_95⟩ := u_89
    generalize H1 = H at hw91 ⊢
    have hw96 : WD D A s.heap (MW cI cJ M mr (upd (upd (upd (upd mi 22 nspot_92) 23 nfrom_93) 24 ntoken_94) 25 nvalue_95) mf mg) H locs := hw91
    obtain ⟨hp_97, hp_98, hp_99, hp_100, hp_101, hp_102, hp_103, hp_104⟩ := hp
    have hp_97 : 0 ≤ nfrom_93.toInt := hp_97
    have hp_98 : nfrom_93.toInt ≤ nspot_92.toInt := hp_98
    have hp_99 : nspot_92.toInt ≤ (mi 21).toInt := hp_99
    have hp_100 : 0 ≤ ntoken_94.toInt := hp_100
    have hp_101 : ntoken_94.toInt ≤ 4 := hp_101
    have hp_102 : ntoken_94.toInt ≤ 4 * nspot_92.toInt - 4 * nfrom_93.toInt := hp_102
    have hp_103 : (mi 22).toInt ≤ nfrom_93.toInt := hp_103
    have hp_104 : (ntoken_94.toInt = 2 → nvalue_95.toInt = 30 → nfrom_93.toInt + 3 ≤ nspot_92.toInt) := hp_104
    refine lv_iload_n (pc := 11) E.1 E.2.1 dX12_readStep_11 rfl (lv_at hl88 0 rfl) ?_
    refine lv_if_eq (pc := 12) (tgt := 29) E.1 E.2.1 dX12_readStep_12 (by decide) (fun _ => ?_) (fun c_105 => absurd (meqE (a := 0) (b := 0) (by decide +kernel) (by decide +kernel) (by omega)) c_105)
    refine lv_aload_n (pc := 29) E.1 E.2.1 dX12_readStep_29 rfl (lv_at hl88 1 rfl) ?_
    refine lv_iconst (pc := 30) (v := 1) E.1 E.2.1 dX12_readStep_30 (by decide +kernel) ?_
    refine lv_bipush (pc := 31) (v := 60) E.1 E.2.1 dX12_readStep_31 (by decide +kernel) ?_
    refine cm_i (pc := 33) hw96 (rn_M (As := [.int 1, .int 60]) (rest := []) E hw96 (s_readNumber l D cI cJ _ M mr (upd (upd (upd (upd mi 22 nspot_92) 23 nfrom_93) 24 ntoken_94) 25 nvalue_95) mf mg 1 60 (by show 0 ≤ nfrom_93.toInt; omega) (by show nfrom_93.toInt ≤ nspot_92.toInt; omega) (by show nspot_92.toInt ≤ (mi 21).toInt; omega) (by show (mi 21).toInt ≤ 400; omega) (by show 0 ≤ ntoken_94.toInt; omega) (by show ntoken_94.toInt ≤ 4; omega) (by show ntoken_94.toInt ≤ 4 * nspot_92.toInt - 4 * nfrom_93.toInt; omega) (by show ((mf 26) 153).toInt = 32; omega) (show (∀ j : Nat, j < 154 → (mf 26) j = w0 j) from lf_words) (show (ntoken_94.toInt = 2 → nvalue_95.toInt = 30 → nfrom_93.toInt + 3 ≤ nspot_92.toInt) from hp_104)) (gdV q_1706 q_1708 q_62 q_162 q_1709) hdV_X12_readNumber ⟨rfl, rfl⟩ ⟨(Nat.le_of_ble_eq_true rfl), (Nat.le_of_ble_eq_true rfl)⟩ ⟨(Nat.le_of_ble_eq_true rfl), (Nat.le_of_ble_eq_true rfl)⟩ 12 rfl rfl rfl rfl hl88.1 rfl (Nat.le_of_ble_eq_true rfl) dX12_readStep_33) (fun r_107 u_106 H1 locs hp hw108 => ?_)
    obtain ⟨nspot_109, nfrom_110, ntoken_111, nvalue_112, nreadFault_113, nreadPlace_114⟩ := u_106
    generalize H1 = H at hw108 ⊢
    have hw115 : WD D A s.heap (MW cI cJ M mr (upd (upd (upd (upd (upd (upd mi 22 nspot_109) 23 nfrom_110) 24 ntoken_111) 25 nvalue_112) 38 nreadFault_113) 39 nreadPlace_114) mf mg) H locs := hw108
    obtain ⟨hp_116, hp_117, hp_118, hp_119, hp_120, hp_121, hp_122, hp_123⟩ := hp
    have hp_116 : 0 ≤ nfrom_110.toInt := hp_116
    have hp_117 : nfrom_110.toInt ≤ nspot_109.toInt := hp_117
    have hp_118 : nspot_109.toInt ≤ (mi 21).toInt := hp_118
    have hp_119 : 0 ≤ ntoken_111.toInt := hp_119
    have hp_120 : ntoken_111.toInt ≤ 4 := hp_120
    have hp_121 : ntoken_111.toInt ≤ 4 * nspot_109.toInt - 4 * nfrom_110.toInt := hp_121
    have hp_122 : (ntoken_111.toInt = 2 → nvalue_112.toInt = 30 → nfrom_110.toInt + 3 ≤ nspot_109.toInt) := hp_122
    rcases hp_123 with rfl | ⟨ha_124, ha_125, ha_126⟩
    · skip
      refine lv_istore_n (pc := 36) (lv' := [(2, .int (-1)), (1, .int 0), (0, .ref M)]) E.1 E.2.1 dX12_readStep_36 rfl hl88 (by decide) rfl (fun ls hl127 => ?_)
      refine lv_iload_n (pc := 37) E.1 E.2.1 dX12_readStep_37 rfl (lv_at hl127 0 rfl) ?_
      refine lv_iconst (pc := 38) (v := (-1)) E.1 E.2.1 dX12_readStep_38 (by decide +kernel) ?_
      refine lv_icmp_eq (pc := 39) (tgt := 52) E.1 E.2.1 dX12_readStep_39 (by decide) (fun _ => ?_) (fun c_128 => absurd (meqE (a := (-1)) (b := (-1)) (by decide +kernel) (by decide +kernel) (by omega)) c_128)
      refine lv_iconst (pc := 52) (v := (-1)) E.1 E.2.1 dX12_readStep_52 (by decide +kernel) ?_
      exact em_i (w1 := (fun (u : Int32 × Int32 × Int32 × Int32 × Int32 × Int32 × (Nat → Int32) × (Nat → Int32) × Int32) => (MW cI cJ M mr (upd (upd (upd (upd (upd (upd (upd mi 22 u.1) 23 u.2.1) 24 u.2.2.1) 25 u.2.2.2.1) 38 u.2.2.2.2.1) 39 u.2.2.2.2.2.1) 48 u.2.2.2.2.2.2.2.2) (va_up (va_up mf 46 u.2.2.2.2.2.2.1) 47 u.2.2.2.2.2.2.2.1) mg))) E hr hlk (nspot_109, nfrom_110, ntoken_111, nvalue_112, nreadFault_113, nreadPlace_114, (mf 46), (mf 47), (mi 48)) hw115 ⟨(by show 0 ≤ nfrom_110.toInt; have k_0 : ((-1) : Int32).toInt = -1 := (by decide +kernel); omega), (by show nfrom_110.toInt ≤ nspot_109.toInt; have k_0 : ((-1) : Int32).toInt = -1 := (by decide +kernel); omega), (by show nspot_109.toInt ≤ (mi 21).toInt; have k_0 : ((-1) : Int32).toInt = -1 := (by decide +kernel); omega), (by show 0 ≤ ntoken_111.toInt; have k_0 : ((-1) : Int32).toInt = -1 := (by decide +kernel); omega), (by show ntoken_111.toInt ≤ 4; have k_0 : ((-1) : Int32).toInt = -1 := (by decide +kernel); omega), (by show ntoken_111.toInt ≤ 4 * nspot_109.toInt - 4 * nfrom_110.toInt; have k_0 : ((-1) : Int32).toInt = -1 := (by decide +kernel); omega), hp_122, (fun h => absurd h (by decide +kernel)), (Or.inl rfl)⟩ (Nat.le_of_ble_eq_true rfl) (Nat.le_of_ble_eq_true rfl) dX12_readStep_53
    · skip
      have ha_124 : (1 : Int32).toInt ≤ r_107.toInt := ha_124
      rw [show (1 : Int32).toInt = 1 from by decide +kernel] at ha_124
      have ha_125 : r_107.toInt ≤ (60 : Int32).toInt := ha_125
      rw [show (60 : Int32).toInt = 60 from by decide +kernel] at ha_125
      have ha_126 : nfrom_93.toInt + 1 ≤ nfrom_110.toInt := ha_126
      refine lv_istore_n (pc := 36) (lv' := [(2, .int r_107), (1, .int 0), (0, .ref M)]) E.1 E.2.1 dX12_readStep_36 rfl hl88 (by decide) rfl (fun ls hl129 => ?_)
      refine lv_iload_n (pc := 37) E.1 E.2.1 dX12_readStep_37 rfl (lv_at hl129 0 rfl) ?_
      refine lv_iconst (pc := 38) (v := (-1)) E.1 E.2.1 dX12_readStep_38 (by decide +kernel) ?_
      refine lv_icmp_eq (pc := 39) (tgt := 52) E.1 E.2.1 dX12_readStep_39 (by decide) (fun c_130 => absurd c_130 (mneE (a := r_107.toInt) (b := (-1)) rfl (by decide +kernel) (by omega))) (fun _ => ?_)
      refine lv_aload_n (pc := 42) E.1 E.2.1 dX12_readStep_42 rfl (lv_at hl129 2 rfl) ?_
      refine lv_bipush (pc := 43) (v := 59) E.1 E.2.1 dX12_readStep_43 (by decide +kernel) ?_
      refine cm_i (pc := 45) hw115 (rn_M (As := [.int 59]) (rest := []) E hw115 (s_readMark l D cI cJ _ M mr (upd (upd (upd (upd (upd (upd mi 22 nspot_109) 23 nfrom_110) 24 ntoken_111) 25 nvalue_112) 38 nreadFault_113) 39 nreadPlace_114) mf mg 59 (by show 0 ≤ nfrom_110.toInt; omega) (by show nfrom_110.toInt ≤ nspot_109.toInt; omega) (by show nspot_109.toInt ≤ (mi 21).toInt; omega) (by show (mi 21).toInt ≤ 400; omega) (by show 0 ≤ ntoken_111.toInt; omega) (by show ntoken_111.toInt ≤ 4; omega) (by show ntoken_111.toInt ≤ 4 * nspot_109.toInt - 4 * nfrom_110.toInt; omega) (by show ((mf 26) 153).toInt = 32; omega) (show (∀ j : Nat, j < 154 → (mf 26) j = w0 j) from lf_words) (show (ntoken_111.toInt = 2 → nvalue_112.toInt = 30 → nfrom_110.toInt + 3 ≤ nspot_109.toInt) from hp_122)) (gdV q_1714 q_1716 q_64 q_162 q_1717) hdV_X12_readMark ⟨rfl, rfl⟩ ⟨(Nat.le_of_ble_eq_true rfl), (Nat.le_of_ble_eq_true rfl)⟩ ⟨(Nat.le_of_ble_eq_true rfl), (Nat.le_of_ble_eq_true rfl)⟩ 12 rfl rfl rfl rfl hl129.1 rfl (Nat.le_of_ble_eq_true rfl) dX12_readStep_45) (fun r_132 u_131 H1 locs hp hw133 => ?_)
      obtain ⟨nspot_134, nfrom_135, ntoken_136, nvalue_137, nreadFault_138, nreadPlace_139⟩ := u_131
      generalize H1 = H at hw133 ⊢
      have hw140 : WD D A s.heap (MW cI cJ M mr (upd (upd (upd (upd (upd (upd mi 22 nspot_134) 23 nfrom_135) 24 ntoken_136) 25 nvalue_137) 38 nreadFault_138) 39 nreadPlace_139) mf mg) H locs := hw133
      obtain ⟨hp_141, hp_142, hp_143, hp_144, hp_145, hp_146, hp_147, hp_148⟩ := hp
      have hp_141 : 0 ≤ nfrom_135.toInt := hp_141
      have hp_142 : nfrom_135.toInt ≤ nspot_134.toInt := hp_142
      have hp_143 : nspot_134.toInt ≤ (mi 21).toInt := hp_143
      have hp_144 : 0 ≤ ntoken_136.toInt := hp_144
      have hp_145 : ntoken_136.toInt ≤ 4 := hp_145
      have hp_146 : ntoken_136.toInt ≤ 4 * nspot_134.toInt - 4 * nfrom_135.toInt := hp_146
      have hp_147 : (ntoken_136.toInt = 2 → nvalue_137.toInt = 30 → nfrom_135.toInt + 3 ≤ nspot_134.toInt) := hp_147
      rcases hp_148 with rfl | ⟨rfl, ha_149⟩
      · skip
        refine lv_iconst (pc := 48) (v := (-1)) E.1 E.2.1 dX12_readStep_48 (by decide +kernel) ?_
        refine lv_icmp_ne (pc := 49) (tgt := 54) E.1 E.2.1 dX12_readStep_49 (by decide) (fun c_150 => absurd (meqE (a := (-1)) (b := (-1)) (by decide +kernel) (by decide +kernel) (by omega)) c_150) (fun _ => ?_)
        refine lv_iconst (pc := 52) (v := (-1)) E.1 E.2.1 dX12_readStep_52 (by decide +kernel) ?_
        exact em_i (w1 := (fun (u : Int32 × Int32 × Int32 × Int32 × Int32 × Int32 × (Nat → Int32) × (Nat → Int32) × Int32) => (MW cI cJ M mr (upd (upd (upd (upd (upd (upd (upd mi 22 u.1) 23 u.2.1) 24 u.2.2.1) 25 u.2.2.2.1) 38 u.2.2.2.2.1) 39 u.2.2.2.2.2.1) 48 u.2.2.2.2.2.2.2.2) (va_up (va_up mf 46 u.2.2.2.2.2.2.1) 47 u.2.2.2.2.2.2.2.1) mg))) E hr hlk (nspot_134, nfrom_135, ntoken_136, nvalue_137, nreadFault_138, nreadPlace_139, (mf 46), (mf 47), (mi 48)) hw140 ⟨(by show 0 ≤ nfrom_135.toInt; have k_0 : ((-1) : Int32).toInt = -1 := (by decide +kernel); omega), (by show nfrom_135.toInt ≤ nspot_134.toInt; have k_0 : ((-1) : Int32).toInt = -1 := (by decide +kernel); omega), (by show nspot_134.toInt ≤ (mi 21).toInt; have k_0 : ((-1) : Int32).toInt = -1 := (by decide +kernel); omega), (by show 0 ≤ ntoken_136.toInt; have k_0 : ((-1) : Int32).toInt = -1 := (by decide +kernel); omega), (by show ntoken_136.toInt ≤ 4; have k_0 : ((-1) : Int32).toInt = -1 := (by decide +kernel); omega), (by show ntoken_136.toInt ≤ 4 * nspot_134.toInt - 4 * nfrom_135.toInt; have k_0 : ((-1) : Int32).toInt = -1 := (by decide +kernel); omega), hp_147, (fun h => absurd h (by decide +kernel)), (Or.inl rfl)⟩ (Nat.le_of_ble_eq_true rfl) (Nat.le_of_ble_eq_true rfl) dX12_readStep_53
      · skip
        have ha_149 : nfrom_110.toInt + 1 ≤ nfrom_135.toInt := ha_149
        refine lv_iconst (pc := 48) (v := (-1)) E.1 E.2.1 dX12_readStep_48 (by decide +kernel) ?_
        refine lv_icmp_ne (pc := 49) (tgt := 54) E.1 E.2.1 dX12_readStep_49 (by decide) (fun _ => ?_) (fun c_151 => absurd c_151 (mneE (a := 0) (b := (-1)) (by decide +kernel) (by decide +kernel) (by omega)))
        refine lv_aload_n (pc := 54) E.1 E.2.1 dX12_readStep_54 rfl (lv_at hl129 2 rfl) ?_
        refine lv_iload_n (pc := 55) E.1 E.2.1 dX12_readStep_55 rfl (lv_at hl129 1 rfl) ?_
        refine lv_if_eq (pc := 56) (tgt := 63) E.1 E.2.1 dX12_readStep_56 (by decide) (fun _ => ?_) (fun c_152 => absurd (meqE (a := 0) (b := 0) (by decide +kernel) (by decide +kernel) (by omega)) c_152)
        refine lv_iconst (pc := 63) (v := 1) E.1 E.2.1 dX12_readStep_63 (by decide +kernel) ?_
        refine lv_iload_n (pc := 64) E.1 E.2.1 dX12_readStep_64 rfl (lv_at hl129 0 rfl) ?_
        refine cm_v (pc := 65) hw140 (rn_M (As := [.int 1, .int r_107]) (rest := []) E hw140 (s_emitsStep l D cI cJ _ M mr (upd (upd (upd (upd (upd (upd mi 22 nspot_134) 23 nfrom_135) 24 ntoken_136) 25 nvalue_137) 38 nreadFault_138) 39 nreadPlace_139) mf mg 1 r_107 (by show 0 ≤ (mi 48).toInt ∧ (mi 48).toInt ≤ 139; omega)) (gdV q_1746 q_1748 q_72 q_162 q_1749) hdV_X12_emitsStep ⟨rfl, rfl⟩ ⟨(Nat.le_of_ble_eq_true rfl), (Nat.le_of_ble_eq_true rfl)⟩ ⟨(Nat.le_of_ble_eq_true rfl), (Nat.le_of_ble_eq_true rfl)⟩ 12 rfl rfl rfl rfl hl129.1 rfl (Nat.le_of_ble_eq_true rfl) dX12_readStep_65) (fun u_153 H1 locs hp hw155 => ?_)
        obtain ⟨gstepOp_156, gstepHow_157, nsteps_158⟩ := u_153
        generalize H1 = H at hw155 ⊢
        have hw159 : WD D A s.heap (MW cI cJ M mr (upd (upd (upd (upd (upd (upd (upd mi 22 nspot_134) 23 nfrom_135) 24 ntoken_136) 25 nvalue_137) 38 nreadFault_138) 39 nreadPlace_139) 48 nsteps_158) (va_up (va_up mf 46 gstepOp_156) 47 gstepHow_157) mg) H locs := hw155
        obtain ⟨hp_160, hp_161⟩ := hp
        have hp_160 : nsteps_158.toInt = (mi 48).toInt + 1 := hp_160
        have hp_161 : EM (mf 46) (mf 47) gstepOp_156 gstepHow_157 (((mi 48).toInt).toNat) (1 : Int32) r_107 := hp_161
        refine lv_iconst (pc := 68) (v := 0) E.1 E.2.1 dX12_readStep_68 (by decide +kernel) ?_
        exact em_i (w1 := (fun (u : Int32 × Int32 × Int32 × Int32 × Int32 × Int32 × (Nat → Int32) × (Nat → Int32) × Int32) => (MW cI cJ M mr (upd (upd (upd (upd (upd (upd (upd mi 22 u.1) 23 u.2.1) 24 u.2.2.1) 25 u.2.2.2.1) 38 u.2.2.2.2.1) 39 u.2.2.2.2.2.1) 48 u.2.2.2.2.2.2.2.2) (va_up (va_up mf 46 u.2.2.2.2.2.2.1) 47 u.2.2.2.2.2.2.2.1) mg))) E hr hlk (nspot_134, nfrom_135, ntoken_136, nvalue_137, nreadFault_138, nreadPlace_139, gstepOp_156, gstepHow_157, nsteps_158) hw159 ⟨(by show 0 ≤ nfrom_135.toInt; have k_0 : (0 : Int32).toInt = 0 := (by decide +kernel); omega), (by show nfrom_135.toInt ≤ nspot_134.toInt; have k_0 : (0 : Int32).toInt = 0 := (by decide +kernel); omega), (by show nspot_134.toInt ≤ (mi 21).toInt; have k_0 : (0 : Int32).toInt = 0 := (by decide +kernel); omega), (by show 0 ≤ ntoken_136.toInt; have k_0 : (0 : Int32).toInt = 0 := (by decide +kernel); omega), (by show ntoken_136.toInt ≤ 4; have k_0 : (0 : Int32).toInt = 0 := (by decide +kernel); omega), (by show ntoken_136.toInt ≤ 4 * nspot_134.toInt - 4 * nfrom_135.toInt; have k_0 : (0 : Int32).toInt = 0 := (by decide +kernel); omega), hp_147, (fun _ => (show (∀ t : Nat, RSP (mf 46) (mf 47) (mi 6).toInt (((mi 48).toInt).toNat) t → RSP gstepOp_156 gstepHow_157 (mi 6).toInt ((nsteps_158.toInt).toNat) t) from (fun t q => RSP_snoc q hp_161 (Or.inr (Or.inl ⟨rfl, (by omega), rfl⟩)) (by omega)))), (Or.inr (⟨rfl, (by show (mi 23).toInt + 3 ≤ nfrom_135.toInt; omega), (by show nsteps_158.toInt = (mi 48).toInt + 1; omega)⟩))⟩ (Nat.le_of_ble_eq_true rfl) (Nat.le_of_ble_eq_true rfl) dX12_readStep_69

set_option maxHeartbeats 4000000 in
set_option maxRecDepth 100000 in
theorem s_readAgain (l : Launch) (D : va_G) (cI cJ : ClassId) (sz M : Nat) (mr : Nat → Nat) (mi : Nat → Int32) (mf : Nat → Nat → Int32) (mg : Nat → Nat → Int64)  (h0 : 0 ≤ (mi 23).toInt) (h1 : (mi 23).toInt ≤ (mi 22).toInt) (h2 : (mi 22).toInt ≤ (mi 21).toInt) (h3 : (mi 21).toInt ≤ 400) (h4 : 0 ≤ (mi 24).toInt) (h5 : (mi 24).toInt ≤ 4) (h6 : (mi 24).toInt ≤ 4 * (mi 22).toInt - 4 * (mi 23).toInt) (h7 : ((mf 26) 153).toInt = 32) (h8 : 0 ≤ (mi 6).toInt ∧ (mi 6).toInt ≤ 10) (h9 : 0 ≤ (mi 48).toInt) (h10 : 3 * (mi 48).toInt ≤ (mi 23).toInt) (h11 : (mi 24).toInt = 2) (h12 : (mi 25).toInt = 30) (h13 : 0 ≤ (mi 35).toInt ∧ (mi 35).toInt ≤ 4) (lf_words : (∀ j : Nat, j < 154 → (mf 26) j = w0 j)) (lf_again : ((mi 24).toInt = 2 → (mi 25).toInt = 30 → (mi 23).toInt + 3 ≤ (mi 22).toInt)) : Met l yX12_readAgain (Cond.code yX12_readAgain cX12_readAgain 2 (some .int) :: GW) ({ frames := 5, cells := 0, slots := 0, locals := 128 } : Room) (va_Pc [.ref M] (PW D cI cJ sz (MW cI cJ M mr mi mf mg) xT)) (va_Qi (fun (r : Int32) (u : Int32 × Int32 × Int32 × Int32 × Int32 × Int32 × (Nat → Int32) × (Nat → Int32) × Int32 × Int32) => (0 ≤ u.2.1.toInt) ∧ (u.2.1.toInt ≤ u.1.toInt) ∧ (u.1.toInt ≤ (mi 21).toInt) ∧ (0 ≤ u.2.2.1.toInt) ∧ (u.2.2.1.toInt ≤ 4) ∧ (u.2.2.1.toInt ≤ 4 * u.1.toInt - 4 * u.2.1.toInt) ∧ ((mi 35).toInt ≤ u.2.2.2.2.2.2.2.2.2.toInt) ∧ (u.2.2.2.2.2.2.2.2.2.toInt ≤ 4) ∧ ((u.2.2.1.toInt = 2 → u.2.2.2.1.toInt = 30 → u.2.1.toInt + 3 ≤ u.1.toInt)) ∧ (r = 0 → (∀ t : Nat, t ≤ 3 → RSP (mf 46) (mf 47) (mi 6).toInt (((mi 48).toInt).toNat) t → RSP u.2.2.2.2.2.2.1 u.2.2.2.2.2.2.2.1 (mi 6).toInt ((u.2.2.2.2.2.2.2.2.1.toInt).toNat) (t + 1))) ∧ ((r = (-1)) ∨ (r = 0 ∧ (mi 23).toInt + 5 ≤ u.2.1.toInt ∧ u.2.2.2.2.2.2.2.2.1.toInt = (mi 48).toInt + 1 ∧ u.2.2.2.2.2.2.2.2.2.toInt = (mi 35).toInt + 1 ∧ u.2.2.2.2.2.2.2.2.2.toInt ≤ 4))) (fun u => QW D cI cJ (va_A (MW cI cJ M mr mi mf mg) sz) ((fun (u : Int32 × Int32 × Int32 × Int32 × Int32 × Int32 × (Nat → Int32) × (Nat → Int32) × Int32 × Int32) => (MW cI cJ M mr (upd (upd (upd (upd (upd (upd (upd (upd mi 22 u.1) 23 u.2.1) 24 u.2.2.1) 25 u.2.2.2.1) 38 u.2.2.2.2.1) 39 u.2.2.2.2.2.1) 48 u.2.2.2.2.2.2.2.2.1) 35 u.2.2.2.2.2.2.2.2.2) (va_up (va_up mf 46 u.2.2.2.2.2.2.1) 47 u.2.2.2.2.2.2.2.1) mg)) u)) (va_A (MW cI cJ M mr mi mf mg) sz)) 0 0 (va_A (MW cI cJ M mr mi mf mg) sz) := by
  refine mk_met (y := yX12_readAgain) (bytes := cX12_readAgain) (maxL := 2) (avs := [.ref M]) (WS := (MW cI cJ M mr mi mf mg)) (Qf := fun A => va_Qi (fun (r : Int32) (u : Int32 × Int32 × Int32 × Int32 × Int32 × Int32 × (Nat → Int32) × (Nat → Int32) × Int32 × Int32) => (0 ≤ u.2.1.toInt) ∧ (u.2.1.toInt ≤ u.1.toInt) ∧ (u.1.toInt ≤ (mi 21).toInt) ∧ (0 ≤ u.2.2.1.toInt) ∧ (u.2.2.1.toInt ≤ 4) ∧ (u.2.2.1.toInt ≤ 4 * u.1.toInt - 4 * u.2.1.toInt) ∧ ((mi 35).toInt ≤ u.2.2.2.2.2.2.2.2.2.toInt) ∧ (u.2.2.2.2.2.2.2.2.2.toInt ≤ 4) ∧ ((u.2.2.1.toInt = 2 → u.2.2.2.1.toInt = 30 → u.2.1.toInt + 3 ≤ u.1.toInt)) ∧ (r = 0 → (∀ t : Nat, t ≤ 3 → RSP (mf 46) (mf 47) (mi 6).toInt (((mi 48).toInt).toNat) t → RSP u.2.2.2.2.2.2.1 u.2.2.2.2.2.2.2.1 (mi 6).toInt ((u.2.2.2.2.2.2.2.2.1.toInt).toNat) (t + 1))) ∧ ((r = (-1)) ∨ (r = 0 ∧ (mi 23).toInt + 5 ≤ u.2.1.toInt ∧ u.2.2.2.2.2.2.2.2.1.toInt = (mi 48).toInt + 1 ∧ u.2.2.2.2.2.2.2.2.2.toInt = (mi 35).toInt + 1 ∧ u.2.2.2.2.2.2.2.2.2.toInt ≤ 4))) (fun u => QW D cI cJ A ((fun (u : Int32 × Int32 × Int32 × Int32 × Int32 × Int32 × (Nat → Int32) × (Nat → Int32) × Int32 × Int32) => (MW cI cJ M mr (upd (upd (upd (upd (upd (upd (upd (upd mi 22 u.1) 23 u.2.1) 24 u.2.2.1) 25 u.2.2.2.1) 38 u.2.2.2.2.1) 39 u.2.2.2.2.2.1) 48 u.2.2.2.2.2.2.2.2.1) 35 u.2.2.2.2.2.2.2.2.2) (va_up (va_up mf 46 u.2.2.2.2.2.2.1) 47 u.2.2.2.2.2.2.2.1) mg)) u)) A) (by decide) (Nat.le_of_ble_eq_true rfl) ?_
  intro p e s m below meth c A ls E hr hlk hnm hX hw1 hl2
  have hl3 : lv_has ls 2 [(0, .ref M)] := hl2
  refine lv_aload_n (pc := 0) E.1 E.2.1 dX12_readAgain_0 rfl (lv_at hl3 0 rfl) ?_
  refine x_get (pc := 1) (T := TX12) (N := 70) (ci := 12) (v := .int (mi 35)) E hw1 inX12 0 35 q_1434 rfl rfl (by decide) rfl rfl dX12_readAgain_1 ?_
  refine lv_iconst (pc := 4) (v := 4) E.1 E.2.1 dX12_readAgain_4 (by decide +kernel) ?_
  refine lv_icmp_ne (pc := 5) (tgt := 14) E.1 E.2.1 dX12_readAgain_5 (by decide) (fun c_4 => ?_) (fun c_4 => ?_)
  · skip
    have hc_4 := neE (a := (mi 35).toInt) (b := 4) rfl (by decide +kernel) c_4
    refine lv_aload_n (pc := 14) E.1 E.2.1 dX12_readAgain_14 rfl (lv_at hl3 0 rfl) ?_
    refine lv_aload_n (pc := 15) E.1 E.2.1 dX12_readAgain_15 rfl (lv_at hl3 0 rfl) ?_
    refine x_get (pc := 16) (T := TX12) (N := 70) (ci := 12) (v := .int (mi 35)) E hw1 inX12 0 35 q_1434 rfl rfl (by decide) rfl rfl dX12_readAgain_16 ?_
    refine lv_iconst (pc := 19) (v := 1) E.1 E.2.1 dX12_readAgain_19 (by decide +kernel) ?_
    refine lv_iadd (pc := 20) E.1 E.2.1 dX12_readAgain_20 ?_
    refine lv_topi (fun v_5 ev_5 => ?_)
    have hv_5 : v_5.toInt = (mi 35).toInt + 1 := by rw [ev_5]; exact addE rfl (by decide +kernel) (by omega)
    refine x_put (pc := 21) (T := TX12) (N := 70) (ci := 12) (ws' := (MW cI cJ M mr (upd mi 35 v_5) mf mg)) E hw1 inX12 tyX12_ok nmX12 0 35 q_1434 rfl rfl (by decide) rfl rfl rfl rfl (Nat.le_of_ble_eq_true rfl) rfl dX12_readAgain_21 (fun H locs hw6 => ?_)
    have hag : (mi 23).toInt + 3 ≤ (mi 22).toInt := lf_again (by omega) (by omega)
    refine lv_aload_n (pc := 24) E.1 E.2.1 dX12_readAgain_24 rfl (lv_at hl3 0 rfl) ?_
    refine cm_v (pc := 25) hw6 (rn_M (As := []) (rest := []) E hw6 (s_reads2 l D cI cJ _ M mr (upd mi 35 v_5) mf mg (by show 0 ≤ (mi 22).toInt; omega) (by show (mi 22).toInt ≤ (mi 21).toInt; omega) (by show (mi 21).toInt ≤ 400; omega) (by show ((mf 26) 153).toInt = 32; omega) (show (∀ j : Nat, j < 154 → (mf 26) j = w0 j) from lf_words)) (gdV q_1666 q_1668 q_52 q_162 q_1669) hdV_X12_reads ⟨rfl, rfl⟩ ⟨(Nat.le_of_ble_eq_true rfl), (Nat.le_of_ble_eq_true rfl)⟩ ⟨(Nat.le_of_ble_eq_true rfl), (Nat.le_of_ble_eq_true rfl)⟩ 12 rfl rfl rfl rfl hl3.1 rfl (Nat.le_of_ble_eq_true rfl) dX12_readAgain_25) (fun u_7 H1 locs hp hw9 => ?_)
    obtain ⟨nspot_10, nfrom_11, ntoken_12, nvalue_13⟩ := u_7
    generalize H1 = H at hw9 ⊢
    have hw14 : WD D A s.heap (MW cI cJ M mr (upd (upd (upd (upd (upd mi 22 nspot_10) 23 nfrom_11) 24 ntoken_12) 25 nvalue_13) 35 v_5) mf mg) H locs := hw9
    obtain ⟨hp_15, hp_16, hp_17, hp_18, hp_19, hp_20, hp_21, hp_22⟩ := hp
    have hp_15 : 0 ≤ nfrom_11.toInt := hp_15
    have hp_16 : nfrom_11.toInt ≤ nspot_10.toInt := hp_16
    have hp_17 : nspot_10.toInt ≤ (mi 21).toInt := hp_17
    have hp_18 : 0 ≤ ntoken_12.toInt := hp_18
    have hp_19 : ntoken_12.toInt ≤ 4 := hp_19
    have hp_20 : ntoken_12.toInt ≤ 4 * nspot_10.toInt - 4 * nfrom_11.toInt := hp_20
    have hp_21 : (mi 22).toInt ≤ nfrom_11.toInt := hp_21
    have hp_22 : (ntoken_12.toInt = 2 → nvalue_13.toInt = 30 → nfrom_11.toInt + 3 ≤ nspot_10.toInt) := hp_22
    refine lv_aload_n (pc := 28) E.1 E.2.1 dX12_readAgain_28 rfl (lv_at hl3 0 rfl) ?_
    refine lv_iconst (pc := 29) (v := 1) E.1 E.2.1 dX12_readAgain_29 (by decide +kernel) ?_
    refine lv_bipush (pc := 30) (v := 9) E.1 E.2.1 dX12_readAgain_30 (by decide +kernel) ?_
    refine cm_i (pc := 32) hw14 (rn_M (As := [.int 1, .int 9]) (rest := []) E hw14 (s_readNumber l D cI cJ _ M mr (upd (upd (upd (upd (upd mi 22 nspot_10) 23 nfrom_11) 24 ntoken_12) 25 nvalue_13) 35 v_5) mf mg 1 9 (by show 0 ≤ nfrom_11.toInt; omega) (by show nfrom_11.toInt ≤ nspot_10.toInt; omega) (by show nspot_10.toInt ≤ (mi 21).toInt; omega) (by show (mi 21).toInt ≤ 400; omega) (by show 0 ≤ ntoken_12.toInt; omega) (by show ntoken_12.toInt ≤ 4; omega) (by show ntoken_12.toInt ≤ 4 * nspot_10.toInt - 4 * nfrom_11.toInt; omega) (by show ((mf 26) 153).toInt = 32; omega) (show (∀ j : Nat, j < 154 → (mf 26) j = w0 j) from lf_words) (show (ntoken_12.toInt = 2 → nvalue_13.toInt = 30 → nfrom_11.toInt + 3 ≤ nspot_10.toInt) from hp_22)) (gdV q_1706 q_1708 q_62 q_162 q_1709) hdV_X12_readNumber ⟨rfl, rfl⟩ ⟨(Nat.le_of_ble_eq_true rfl), (Nat.le_of_ble_eq_true rfl)⟩ ⟨(Nat.le_of_ble_eq_true rfl), (Nat.le_of_ble_eq_true rfl)⟩ 12 rfl rfl rfl rfl hl3.1 rfl (Nat.le_of_ble_eq_true rfl) dX12_readAgain_32) (fun r_24 u_23 H1 locs hp hw25 => ?_)
    obtain ⟨nspot_26, nfrom_27, ntoken_28, nvalue_29, nreadFault_30, nreadPlace_31⟩ := u_23
    generalize H1 = H at hw25 ⊢
    have hw32 : WD D A s.heap (MW cI cJ M mr (upd (upd (upd (upd (upd (upd (upd mi 22 nspot_26) 23 nfrom_27) 24 ntoken_28) 25 nvalue_29) 35 v_5) 38 nreadFault_30) 39 nreadPlace_31) mf mg) H locs := hw25
    obtain ⟨hp_33, hp_34, hp_35, hp_36, hp_37, hp_38, hp_39, hp_40⟩ := hp
    have hp_33 : 0 ≤ nfrom_27.toInt := hp_33
    have hp_34 : nfrom_27.toInt ≤ nspot_26.toInt := hp_34
    have hp_35 : nspot_26.toInt ≤ (mi 21).toInt := hp_35
    have hp_36 : 0 ≤ ntoken_28.toInt := hp_36
    have hp_37 : ntoken_28.toInt ≤ 4 := hp_37
    have hp_38 : ntoken_28.toInt ≤ 4 * nspot_26.toInt - 4 * nfrom_27.toInt := hp_38
    have hp_39 : (ntoken_28.toInt = 2 → nvalue_29.toInt = 30 → nfrom_27.toInt + 3 ≤ nspot_26.toInt) := hp_39
    rcases hp_40 with rfl | ⟨ha_41, ha_42, ha_43⟩
    · skip
      refine lv_istore_n (pc := 35) (lv' := [(1, .int (-1)), (0, .ref M)]) E.1 E.2.1 dX12_readAgain_35 rfl hl3 (by decide) rfl (fun ls hl44 => ?_)
      refine lv_iload_n (pc := 36) E.1 E.2.1 dX12_readAgain_36 rfl (lv_at hl44 0 rfl) ?_
      refine lv_iconst (pc := 37) (v := (-1)) E.1 E.2.1 dX12_readAgain_37 (by decide +kernel) ?_
      refine lv_icmp_eq (pc := 38) (tgt := 51) E.1 E.2.1 dX12_readAgain_38 (by decide) (fun _ => ?_) (fun c_45 => absurd (meqE (a := (-1)) (b := (-1)) (by decide +kernel) (by decide +kernel) (by omega)) c_45)
      refine lv_iconst (pc := 51) (v := (-1)) E.1 E.2.1 dX12_readAgain_51 (by decide +kernel) ?_
      exact em_i (w1 := (fun (u : Int32 × Int32 × Int32 × Int32 × Int32 × Int32 × (Nat → Int32) × (Nat → Int32) × Int32 × Int32) => (MW cI cJ M mr (upd (upd (upd (upd (upd (upd (upd (upd mi 22 u.1) 23 u.2.1) 24 u.2.2.1) 25 u.2.2.2.1) 38 u.2.2.2.2.1) 39 u.2.2.2.2.2.1) 48 u.2.2.2.2.2.2.2.2.1) 35 u.2.2.2.2.2.2.2.2.2) (va_up (va_up mf 46 u.2.2.2.2.2.2.1) 47 u.2.2.2.2.2.2.2.1) mg))) E hr hlk (nspot_26, nfrom_27, ntoken_28, nvalue_29, nreadFault_30, nreadPlace_31, (mf 46), (mf 47), (mi 48), v_5) hw32 ⟨(by show 0 ≤ nfrom_27.toInt; have k_0 : ((-1) : Int32).toInt = -1 := (by decide +kernel); omega), (by show nfrom_27.toInt ≤ nspot_26.toInt; have k_0 : ((-1) : Int32).toInt = -1 := (by decide +kernel); omega), (by show nspot_26.toInt ≤ (mi 21).toInt; have k_0 : ((-1) : Int32).toInt = -1 := (by decide +kernel); omega), (by show 0 ≤ ntoken_28.toInt; have k_0 : ((-1) : Int32).toInt = -1 := (by decide +kernel); omega), (by show ntoken_28.toInt ≤ 4; have k_0 : ((-1) : Int32).toInt = -1 := (by decide +kernel); omega), (by show ntoken_28.toInt ≤ 4 * nspot_26.toInt - 4 * nfrom_27.toInt; have k_0 : ((-1) : Int32).toInt = -1 := (by decide +kernel); omega), (by show (mi 35).toInt ≤ v_5.toInt; have k_0 : ((-1) : Int32).toInt = -1 := (by decide +kernel); omega), (by show v_5.toInt ≤ 4; have k_0 : ((-1) : Int32).toInt = -1 := (by decide +kernel); omega), hp_39, (fun h => absurd h (by decide +kernel)), (Or.inl rfl)⟩ (Nat.le_of_ble_eq_true rfl) (Nat.le_of_ble_eq_true rfl) dX12_readAgain_52
    · skip
      have ha_41 : (1 : Int32).toInt ≤ r_24.toInt := ha_41
      rw [show (1 : Int32).toInt = 1 from by decide +kernel] at ha_41
      have ha_42 : r_24.toInt ≤ (9 : Int32).toInt := ha_42
      rw [show (9 : Int32).toInt = 9 from by decide +kernel] at ha_42
      have ha_43 : nfrom_11.toInt + 1 ≤ nfrom_27.toInt := ha_43
      refine lv_istore_n (pc := 35) (lv' := [(1, .int r_24), (0, .ref M)]) E.1 E.2.1 dX12_readAgain_35 rfl hl3 (by decide) rfl (fun ls hl46 => ?_)
      refine lv_iload_n (pc := 36) E.1 E.2.1 dX12_readAgain_36 rfl (lv_at hl46 0 rfl) ?_
      refine lv_iconst (pc := 37) (v := (-1)) E.1 E.2.1 dX12_readAgain_37 (by decide +kernel) ?_
      refine lv_icmp_eq (pc := 38) (tgt := 51) E.1 E.2.1 dX12_readAgain_38 (by decide) (fun c_47 => absurd c_47 (mneE (a := r_24.toInt) (b := (-1)) rfl (by decide +kernel) (by omega))) (fun _ => ?_)
      refine lv_aload_n (pc := 41) E.1 E.2.1 dX12_readAgain_41 rfl (lv_at hl46 1 rfl) ?_
      refine lv_bipush (pc := 42) (v := 40) E.1 E.2.1 dX12_readAgain_42 (by decide +kernel) ?_
      refine cm_i (pc := 44) hw32 (rn_M (As := [.int 40]) (rest := []) E hw32 (s_readMark l D cI cJ _ M mr (upd (upd (upd (upd (upd (upd (upd mi 22 nspot_26) 23 nfrom_27) 24 ntoken_28) 25 nvalue_29) 35 v_5) 38 nreadFault_30) 39 nreadPlace_31) mf mg 40 (by show 0 ≤ nfrom_27.toInt; omega) (by show nfrom_27.toInt ≤ nspot_26.toInt; omega) (by show nspot_26.toInt ≤ (mi 21).toInt; omega) (by show (mi 21).toInt ≤ 400; omega) (by show 0 ≤ ntoken_28.toInt; omega) (by show ntoken_28.toInt ≤ 4; omega) (by show ntoken_28.toInt ≤ 4 * nspot_26.toInt - 4 * nfrom_27.toInt; omega) (by show ((mf 26) 153).toInt = 32; omega) (show (∀ j : Nat, j < 154 → (mf 26) j = w0 j) from lf_words) (show (ntoken_28.toInt = 2 → nvalue_29.toInt = 30 → nfrom_27.toInt + 3 ≤ nspot_26.toInt) from hp_39)) (gdV q_1714 q_1716 q_64 q_162 q_1717) hdV_X12_readMark ⟨rfl, rfl⟩ ⟨(Nat.le_of_ble_eq_true rfl), (Nat.le_of_ble_eq_true rfl)⟩ ⟨(Nat.le_of_ble_eq_true rfl), (Nat.le_of_ble_eq_true rfl)⟩ 12 rfl rfl rfl rfl hl46.1 rfl (Nat.le_of_ble_eq_true rfl) dX12_readAgain_44) (fun r_49 u_48 H1 locs hp hw50 => ?_)
      obtain ⟨nspot_51, nfrom_52, ntoken_53, nvalue_54, nreadFault_55, nreadPlace_56⟩ := u_48
      generalize H1 = H at hw50 ⊢
      have hw57 : WD D A s.heap (MW cI cJ M mr (upd (upd (upd (upd (upd (upd (upd mi 22 nspot_51) 23 nfrom_52) 24 ntoken_53) 25 nvalue_54) 35 v_5) 38 nreadFault_55) 39 nreadPlace_56) mf mg) H locs := hw50
      obtain ⟨hp_58, hp_59, hp_60, hp_61, hp_62, hp_63, hp_64, hp_65⟩ := hp
      have hp_58 : 0 ≤ nfrom_52.toInt := hp_58
      have hp_59 : nfrom_52.toInt ≤ nspot_51.toInt := hp_59
      have hp_60 : nspot_51.toInt ≤ (mi 21).toInt := hp_60
      have hp_61 : 0 ≤ ntoken_53.toInt := hp_61
      have hp_62 : ntoken_53.toInt ≤ 4 := hp_62
      have hp_63 : ntoken_53.toInt ≤ 4 * nspot_51.toInt - 4 * nfrom_52.toInt := hp_63
      have hp_64 : (ntoken_53.toInt = 2 → nvalue_54.toInt = 30 → nfrom_52.toInt + 3 ≤ nspot_51.toInt) := hp_64
      rcases hp_65 with rfl | ⟨rfl, ha_66⟩
      · skip
        refine lv_iconst (pc := 47) (v := (-1)) E.1 E.2.1 dX12_readAgain_47 (by decide +kernel) ?_
        refine lv_icmp_ne (pc := 48) (tgt := 53) E.1 E.2.1 dX12_readAgain_48 (by decide) (fun c_67 => absurd (meqE (a := (-1)) (b := (-1)) (by decide +kernel) (by decide +kernel) (by omega)) c_67) (fun _ => ?_)
        refine lv_iconst (pc := 51) (v := (-1)) E.1 E.2.1 dX12_readAgain_51 (by decide +kernel) ?_
        exact em_i (w1 := (fun (u : Int32 × Int32 × Int32 × Int32 × Int32 × Int32 × (Nat → Int32) × (Nat → Int32) × Int32 × Int32) => (MW cI cJ M mr (upd (upd (upd (upd (upd (upd (upd (upd mi 22 u.1) 23 u.2.1) 24 u.2.2.1) 25 u.2.2.2.1) 38 u.2.2.2.2.1) 39 u.2.2.2.2.2.1) 48 u.2.2.2.2.2.2.2.2.1) 35 u.2.2.2.2.2.2.2.2.2) (va_up (va_up mf 46 u.2.2.2.2.2.2.1) 47 u.2.2.2.2.2.2.2.1) mg))) E hr hlk (nspot_51, nfrom_52, ntoken_53, nvalue_54, nreadFault_55, nreadPlace_56, (mf 46), (mf 47), (mi 48), v_5) hw57 ⟨(by show 0 ≤ nfrom_52.toInt; have k_0 : ((-1) : Int32).toInt = -1 := (by decide +kernel); omega), (by show nfrom_52.toInt ≤ nspot_51.toInt; have k_0 : ((-1) : Int32).toInt = -1 := (by decide +kernel); omega), (by show nspot_51.toInt ≤ (mi 21).toInt; have k_0 : ((-1) : Int32).toInt = -1 := (by decide +kernel); omega), (by show 0 ≤ ntoken_53.toInt; have k_0 : ((-1) : Int32).toInt = -1 := (by decide +kernel); omega), (by show ntoken_53.toInt ≤ 4; have k_0 : ((-1) : Int32).toInt = -1 := (by decide +kernel); omega), (by show ntoken_53.toInt ≤ 4 * nspot_51.toInt - 4 * nfrom_52.toInt; have k_0 : ((-1) : Int32).toInt = -1 := (by decide +kernel); omega), (by show (mi 35).toInt ≤ v_5.toInt; have k_0 : ((-1) : Int32).toInt = -1 := (by decide +kernel); omega), (by show v_5.toInt ≤ 4; have k_0 : ((-1) : Int32).toInt = -1 := (by decide +kernel); omega), hp_64, (fun h => absurd h (by decide +kernel)), (Or.inl rfl)⟩ (Nat.le_of_ble_eq_true rfl) (Nat.le_of_ble_eq_true rfl) dX12_readAgain_52
      · skip
        have ha_66 : nfrom_27.toInt + 1 ≤ nfrom_52.toInt := ha_66
        refine lv_iconst (pc := 47) (v := (-1)) E.1 E.2.1 dX12_readAgain_47 (by decide +kernel) ?_
        refine lv_icmp_ne (pc := 48) (tgt := 53) E.1 E.2.1 dX12_readAgain_48 (by decide) (fun _ => ?_) (fun c_68 => absurd c_68 (mneE (a := 0) (b := (-1)) (by decide +kernel) (by decide +kernel) (by omega)))
        refine lv_aload_n (pc := 53) E.1 E.2.1 dX12_readAgain_53 rfl (lv_at hl46 1 rfl) ?_
        refine lv_iconst (pc := 54) (v := 2) E.1 E.2.1 dX12_readAgain_54 (by decide +kernel) ?_
        refine lv_iload_n (pc := 55) E.1 E.2.1 dX12_readAgain_55 rfl (lv_at hl46 0 rfl) ?_
        refine cm_v (pc := 56) hw57 (rn_M (As := [.int 2, .int r_24]) (rest := []) E hw57 (s_emitsStep l D cI cJ _ M mr (upd (upd (upd (upd (upd (upd (upd mi 22 nspot_51) 23 nfrom_52) 24 ntoken_53) 25 nvalue_54) 35 v_5) 38 nreadFault_55) 39 nreadPlace_56) mf mg 2 r_24 (by show 0 ≤ (mi 48).toInt ∧ (mi 48).toInt ≤ 139; omega)) (gdV q_1746 q_1748 q_72 q_162 q_1749) hdV_X12_emitsStep ⟨rfl, rfl⟩ ⟨(Nat.le_of_ble_eq_true rfl), (Nat.le_of_ble_eq_true rfl)⟩ ⟨(Nat.le_of_ble_eq_true rfl), (Nat.le_of_ble_eq_true rfl)⟩ 12 rfl rfl rfl rfl hl46.1 rfl (Nat.le_of_ble_eq_true rfl) dX12_readAgain_56) (fun u_69 H1 locs hp hw71 => ?_)
        obtain ⟨gstepOp_72, gstepHow_73, nsteps_74⟩ := u_69
        generalize H1 = H at hw71 ⊢
        have hw75 : WD D A s.heap (MW cI cJ M mr (upd (upd (upd (upd (upd (upd (upd (upd mi 22 nspot_51) 23 nfrom_52) 24 ntoken_53) 25 nvalue_54) 35 v_5) 38 nreadFault_55) 39 nreadPlace_56) 48 nsteps_74) (va_up (va_up mf 46 gstepOp_72) 47 gstepHow_73) mg) H locs := hw71
        obtain ⟨hp_76, hp_77⟩ := hp
        have hp_76 : nsteps_74.toInt = (mi 48).toInt + 1 := hp_76
        have hp_77 : EM (mf 46) (mf 47) gstepOp_72 gstepHow_73 (((mi 48).toInt).toNat) (2 : Int32) r_24 := hp_77
        refine lv_iconst (pc := 59) (v := 0) E.1 E.2.1 dX12_readAgain_59 (by decide +kernel) ?_
        exact em_i (w1 := (fun (u : Int32 × Int32 × Int32 × Int32 × Int32 × Int32 × (Nat → Int32) × (Nat → Int32) × Int32 × Int32) => (MW cI cJ M mr (upd (upd (upd (upd (upd (upd (upd (upd mi 22 u.1) 23 u.2.1) 24 u.2.2.1) 25 u.2.2.2.1) 38 u.2.2.2.2.1) 39 u.2.2.2.2.2.1) 48 u.2.2.2.2.2.2.2.2.1) 35 u.2.2.2.2.2.2.2.2.2) (va_up (va_up mf 46 u.2.2.2.2.2.2.1) 47 u.2.2.2.2.2.2.2.1) mg))) E hr hlk (nspot_51, nfrom_52, ntoken_53, nvalue_54, nreadFault_55, nreadPlace_56, gstepOp_72, gstepHow_73, nsteps_74, v_5) hw75 ⟨(by show 0 ≤ nfrom_52.toInt; have k_0 : (0 : Int32).toInt = 0 := (by decide +kernel); omega), (by show nfrom_52.toInt ≤ nspot_51.toInt; have k_0 : (0 : Int32).toInt = 0 := (by decide +kernel); omega), (by show nspot_51.toInt ≤ (mi 21).toInt; have k_0 : (0 : Int32).toInt = 0 := (by decide +kernel); omega), (by show 0 ≤ ntoken_53.toInt; have k_0 : (0 : Int32).toInt = 0 := (by decide +kernel); omega), (by show ntoken_53.toInt ≤ 4; have k_0 : (0 : Int32).toInt = 0 := (by decide +kernel); omega), (by show ntoken_53.toInt ≤ 4 * nspot_51.toInt - 4 * nfrom_52.toInt; have k_0 : (0 : Int32).toInt = 0 := (by decide +kernel); omega), (by show (mi 35).toInt ≤ v_5.toInt; have k_0 : (0 : Int32).toInt = 0 := (by decide +kernel); omega), (by show v_5.toInt ≤ 4; have k_0 : (0 : Int32).toInt = 0 := (by decide +kernel); omega), hp_64, (fun _ => (show (∀ t : Nat, t ≤ 3 → RSP (mf 46) (mf 47) (mi 6).toInt (((mi 48).toInt).toNat) t → RSP gstepOp_72 gstepHow_73 (mi 6).toInt ((nsteps_74.toInt).toNat) (t + 1)) from (fun t ht q => RSP_snoc q hp_77 (Or.inr (Or.inr (Or.inl ⟨rfl, (by omega), ht, rfl⟩))) (by omega)))), (Or.inr (⟨rfl, (by show (mi 23).toInt + 5 ≤ nfrom_52.toInt; omega), (by show nsteps_74.toInt = (mi 48).toInt + 1; omega), (by show v_5.toInt = (mi 35).toInt + 1; omega), (by show v_5.toInt ≤ 4; omega)⟩))⟩ (Nat.le_of_ble_eq_true rfl) (Nat.le_of_ble_eq_true rfl) dX12_readAgain_60
  · skip
    have hc_4 := eqE (a := (mi 35).toInt) (b := 4) rfl (by decide +kernel) c_4
    refine lv_aload_n (pc := 8) E.1 E.2.1 dX12_readAgain_8 rfl (lv_at hl3 0 rfl) ?_
    refine lv_iconst (pc := 9) (v := 3) E.1 E.2.1 dX12_readAgain_9 (by decide +kernel) ?_
    refine cm_i (pc := 10) hw1 (rn_M (As := [.int 3]) (rest := []) E hw1 (s_errs2 l D cI cJ _ M mr mi mf mg 3) (gdV q_1698 q_1700 q_60 q_162 q_1701) hdV_X12_errs ⟨rfl, rfl⟩ ⟨(Nat.le_of_ble_eq_true rfl), (Nat.le_of_ble_eq_true rfl)⟩ ⟨(Nat.le_of_ble_eq_true rfl), (Nat.le_of_ble_eq_true rfl)⟩ 12 rfl rfl rfl rfl hl3.1 rfl (Nat.le_of_ble_eq_true rfl) dX12_readAgain_10) (fun r_79 u_78 H1 locs hp hw80 => ?_)
    obtain ⟨nreadFault_81, nreadPlace_82⟩ := u_78
    generalize H1 = H at hw80 ⊢
    have hw83 : WD D A s.heap (MW cI cJ M mr (upd (upd mi 38 nreadFault_81) 39 nreadPlace_82) mf mg) H locs := hw80
    have hp_84 := hp
    rcases hp_84 with rfl
    · skip
      exact em_i (w1 := (fun (u : Int32 × Int32 × Int32 × Int32 × Int32 × Int32 × (Nat → Int32) × (Nat → Int32) × Int32 × Int32) => (MW cI cJ M mr (upd (upd (upd (upd (upd (upd (upd (upd mi 22 u.1) 23 u.2.1) 24 u.2.2.1) 25 u.2.2.2.1) 38 u.2.2.2.2.1) 39 u.2.2.2.2.2.1) 48 u.2.2.2.2.2.2.2.2.1) 35 u.2.2.2.2.2.2.2.2.2) (va_up (va_up mf 46 u.2.2.2.2.2.2.1) 47 u.2.2.2.2.2.2.2.1) mg))) E hr hlk ((mi 22), (mi 23), (mi 24), (mi 25), nreadFault_81, nreadPlace_82, (mf 46), (mf 47), (mi 48), (mi 35)) hw83 ⟨(by show 0 ≤ (mi 23).toInt; have k_0 : ((-1) : Int32).toInt = -1 := (by decide +kernel); omega), (by show (mi 23).toInt ≤ (mi 22).toInt; have k_0 : ((-1) : Int32).toInt = -1 := (by decide +kernel); omega), (by show (mi 22).toInt ≤ (mi 21).toInt; have k_0 : ((-1) : Int32).toInt = -1 := (by decide +kernel); omega), (by show 0 ≤ (mi 24).toInt; have k_0 : ((-1) : Int32).toInt = -1 := (by decide +kernel); omega), (by show (mi 24).toInt ≤ 4; have k_0 : ((-1) : Int32).toInt = -1 := (by decide +kernel); omega), (by show (mi 24).toInt ≤ 4 * (mi 22).toInt - 4 * (mi 23).toInt; have k_0 : ((-1) : Int32).toInt = -1 := (by decide +kernel); omega), (by show (mi 35).toInt ≤ (mi 35).toInt; have k_0 : ((-1) : Int32).toInt = -1 := (by decide +kernel); omega), (by show (mi 35).toInt ≤ 4; have k_0 : ((-1) : Int32).toInt = -1 := (by decide +kernel); omega), lf_again, (fun h => absurd h (by decide +kernel)), (Or.inl rfl)⟩ (Nat.le_of_ble_eq_true rfl) (Nat.le_of_ble_eq_true rfl) dX12_readAgain_13

set_option maxHeartbeats 4000000 in
set_option maxRecDepth 100000 in
theorem s_readAgainEnd (l : Launch) (D : va_G) (cI cJ : ClassId) (sz M : Nat) (mr : Nat → Nat) (mi : Nat → Int32) (mf : Nat → Nat → Int32) (mg : Nat → Nat → Int64)  (h0 : 0 ≤ (mi 23).toInt) (h1 : (mi 23).toInt ≤ (mi 22).toInt) (h2 : (mi 22).toInt ≤ (mi 21).toInt) (h3 : (mi 21).toInt ≤ 400) (h4 : 0 ≤ (mi 24).toInt) (h5 : (mi 24).toInt ≤ 4) (h6 : (mi 24).toInt ≤ 4 * (mi 22).toInt - 4 * (mi 23).toInt) (h7 : ((mf 26) 153).toInt = 32) (h8 : 0 ≤ (mi 6).toInt ∧ (mi 6).toInt ≤ 10) (h9 : 0 ≤ (mi 48).toInt) (h10 : 3 * (mi 48).toInt ≤ (mi 23).toInt) (h11 : 1 ≤ (mi 24).toInt) (h12 : 1 ≤ (mi 35).toInt ∧ (mi 35).toInt ≤ 4) (lf_words : (∀ j : Nat, j < 154 → (mf 26) j = w0 j)) (lf_again : ((mi 24).toInt = 2 → (mi 25).toInt = 30 → (mi 23).toInt + 3 ≤ (mi 22).toInt)) : Met l yX12_readAgainEnd (Cond.code yX12_readAgainEnd cX12_readAgainEnd 1 (some .int) :: GW) ({ frames := 4, cells := 0, slots := 0, locals := 105 } : Room) (va_Pc [.ref M] (PW D cI cJ sz (MW cI cJ M mr mi mf mg) xT)) (va_Qi (fun (r : Int32) (u : Int32 × Int32 × Int32 × Int32 × Int32 × Int32 × (Nat → Int32) × (Nat → Int32) × Int32 × Int32) => (0 ≤ u.2.1.toInt) ∧ (u.2.1.toInt ≤ u.1.toInt) ∧ (u.1.toInt ≤ (mi 21).toInt) ∧ (0 ≤ u.2.2.1.toInt) ∧ (u.2.2.1.toInt ≤ 4) ∧ (u.2.2.1.toInt ≤ 4 * u.1.toInt - 4 * u.2.1.toInt) ∧ ((u.2.2.1.toInt = 2 → u.2.2.2.1.toInt = 30 → u.2.1.toInt + 3 ≤ u.1.toInt)) ∧ (r = 0 → (∀ t : Nat, RSP (mf 46) (mf 47) (mi 6).toInt (((mi 48).toInt).toNat) (t + 1) → RSP u.2.2.2.2.2.2.1 u.2.2.2.2.2.2.2.1 (mi 6).toInt ((u.2.2.2.2.2.2.2.2.1.toInt).toNat) t)) ∧ ((r = 0 ∧ (mi 23).toInt + 1 ≤ u.2.1.toInt ∧ u.2.2.2.2.2.2.2.2.1.toInt = (mi 48).toInt + 1 ∧ u.2.2.2.2.2.2.2.2.2.toInt = (mi 35).toInt - 1))) (fun u => QW D cI cJ (va_A (MW cI cJ M mr mi mf mg) sz) ((fun (u : Int32 × Int32 × Int32 × Int32 × Int32 × Int32 × (Nat → Int32) × (Nat → Int32) × Int32 × Int32) => (MW cI cJ M mr (upd (upd (upd (upd (upd (upd (upd (upd mi 22 u.1) 23 u.2.1) 24 u.2.2.1) 25 u.2.2.2.1) 38 u.2.2.2.2.1) 39 u.2.2.2.2.2.1) 48 u.2.2.2.2.2.2.2.2.1) 35 u.2.2.2.2.2.2.2.2.2) (va_up (va_up mf 46 u.2.2.2.2.2.2.1) 47 u.2.2.2.2.2.2.2.1) mg)) u)) (va_A (MW cI cJ M mr mi mf mg) sz)) 0 0 (va_A (MW cI cJ M mr mi mf mg) sz) := by
  refine mk_met (y := yX12_readAgainEnd) (bytes := cX12_readAgainEnd) (maxL := 1) (avs := [.ref M]) (WS := (MW cI cJ M mr mi mf mg)) (Qf := fun A => va_Qi (fun (r : Int32) (u : Int32 × Int32 × Int32 × Int32 × Int32 × Int32 × (Nat → Int32) × (Nat → Int32) × Int32 × Int32) => (0 ≤ u.2.1.toInt) ∧ (u.2.1.toInt ≤ u.1.toInt) ∧ (u.1.toInt ≤ (mi 21).toInt) ∧ (0 ≤ u.2.2.1.toInt) ∧ (u.2.2.1.toInt ≤ 4) ∧ (u.2.2.1.toInt ≤ 4 * u.1.toInt - 4 * u.2.1.toInt) ∧ ((u.2.2.1.toInt = 2 → u.2.2.2.1.toInt = 30 → u.2.1.toInt + 3 ≤ u.1.toInt)) ∧ (r = 0 → (∀ t : Nat, RSP (mf 46) (mf 47) (mi 6).toInt (((mi 48).toInt).toNat) (t + 1) → RSP u.2.2.2.2.2.2.1 u.2.2.2.2.2.2.2.1 (mi 6).toInt ((u.2.2.2.2.2.2.2.2.1.toInt).toNat) t)) ∧ ((r = 0 ∧ (mi 23).toInt + 1 ≤ u.2.1.toInt ∧ u.2.2.2.2.2.2.2.2.1.toInt = (mi 48).toInt + 1 ∧ u.2.2.2.2.2.2.2.2.2.toInt = (mi 35).toInt - 1))) (fun u => QW D cI cJ A ((fun (u : Int32 × Int32 × Int32 × Int32 × Int32 × Int32 × (Nat → Int32) × (Nat → Int32) × Int32 × Int32) => (MW cI cJ M mr (upd (upd (upd (upd (upd (upd (upd (upd mi 22 u.1) 23 u.2.1) 24 u.2.2.1) 25 u.2.2.2.1) 38 u.2.2.2.2.1) 39 u.2.2.2.2.2.1) 48 u.2.2.2.2.2.2.2.2.1) 35 u.2.2.2.2.2.2.2.2.2) (va_up (va_up mf 46 u.2.2.2.2.2.2.1) 47 u.2.2.2.2.2.2.2.1) mg)) u)) A) (by decide) (Nat.le_of_ble_eq_true rfl) ?_
  intro p e s m below meth c A ls E hr hlk hnm hX hw1 hl2
  have hl3 : lv_has ls 1 [(0, .ref M)] := hl2
  refine lv_aload_n (pc := 0) E.1 E.2.1 dX12_readAgainEnd_0 rfl (lv_at hl3 0 rfl) ?_
  refine lv_aload_n (pc := 1) E.1 E.2.1 dX12_readAgainEnd_1 rfl (lv_at hl3 0 rfl) ?_
  refine x_get (pc := 2) (T := TX12) (N := 70) (ci := 12) (v := .int (mi 35)) E hw1 inX12 0 35 q_1434 rfl rfl (by decide) rfl rfl dX12_readAgainEnd_2 ?_
  refine lv_iconst (pc := 5) (v := 1) E.1 E.2.1 dX12_readAgainEnd_5 (by decide +kernel) ?_
  refine lv_isub (pc := 6) E.1 E.2.1 dX12_readAgainEnd_6 ?_
  refine lv_topi (fun v_4 ev_4 => ?_)
  have hv_4 : v_4.toInt = (mi 35).toInt - 1 := by rw [ev_4]; exact subE rfl (by decide +kernel) (by omega)
  refine x_put (pc := 7) (T := TX12) (N := 70) (ci := 12) (ws' := (MW cI cJ M mr (upd mi 35 v_4) mf mg)) E hw1 inX12 tyX12_ok nmX12 0 35 q_1434 rfl rfl (by decide) rfl rfl rfl rfl (Nat.le_of_ble_eq_true rfl) rfl dX12_readAgainEnd_7 (fun H locs hw5 => ?_)
  refine lv_aload_n (pc := 10) E.1 E.2.1 dX12_readAgainEnd_10 rfl (lv_at hl3 0 rfl) ?_
  refine cm_v (pc := 11) hw5 (rn_M (As := []) (rest := []) E hw5 (s_reads2 l D cI cJ _ M mr (upd mi 35 v_4) mf mg (by show 0 ≤ (mi 22).toInt; omega) (by show (mi 22).toInt ≤ (mi 21).toInt; omega) (by show (mi 21).toInt ≤ 400; omega) (by show ((mf 26) 153).toInt = 32; omega) (show (∀ j : Nat, j < 154 → (mf 26) j = w0 j) from lf_words)) (gdV q_1666 q_1668 q_52 q_162 q_1669) hdV_X12_reads ⟨rfl, rfl⟩ ⟨(Nat.le_of_ble_eq_true rfl), (Nat.le_of_ble_eq_true rfl)⟩ ⟨(Nat.le_of_ble_eq_true rfl), (Nat.le_of_ble_eq_true rfl)⟩ 12 rfl rfl rfl rfl hl3.1 rfl (Nat.le_of_ble_eq_true rfl) dX12_readAgainEnd_11) (fun u_6 H1 locs hp hw8 => ?_)
  obtain ⟨nspot_9, nfrom_10, ntoken_11, nvalue_12⟩ := u_6
  generalize H1 = H at hw8 ⊢
  have hw13 : WD D A s.heap (MW cI cJ M mr (upd (upd (upd (upd (upd mi 22 nspot_9) 23 nfrom_10) 24 ntoken_11) 25 nvalue_12) 35 v_4) mf mg) H locs := hw8
  obtain ⟨hp_14, hp_15, hp_16, hp_17, hp_18, hp_19, hp_20, hp_21⟩ := hp
  have hp_14 : 0 ≤ nfrom_10.toInt := hp_14
  have hp_15 : nfrom_10.toInt ≤ nspot_9.toInt := hp_15
  have hp_16 : nspot_9.toInt ≤ (mi 21).toInt := hp_16
  have hp_17 : 0 ≤ ntoken_11.toInt := hp_17
  have hp_18 : ntoken_11.toInt ≤ 4 := hp_18
  have hp_19 : ntoken_11.toInt ≤ 4 * nspot_9.toInt - 4 * nfrom_10.toInt := hp_19
  have hp_20 : (mi 22).toInt ≤ nfrom_10.toInt := hp_20
  have hp_21 : (ntoken_11.toInt = 2 → nvalue_12.toInt = 30 → nfrom_10.toInt + 3 ≤ nspot_9.toInt) := hp_21
  refine lv_aload_n (pc := 14) E.1 E.2.1 dX12_readAgainEnd_14 rfl (lv_at hl3 0 rfl) ?_
  refine lv_iconst (pc := 15) (v := 3) E.1 E.2.1 dX12_readAgainEnd_15 (by decide +kernel) ?_
  refine lv_iconst (pc := 16) (v := 0) E.1 E.2.1 dX12_readAgainEnd_16 (by decide +kernel) ?_
  refine cm_v (pc := 17) hw13 (rn_M (As := [.int 3, .int 0]) (rest := []) E hw13 (s_emitsStep l D cI cJ _ M mr (upd (upd (upd (upd (upd mi 22 nspot_9) 23 nfrom_10) 24 ntoken_11) 25 nvalue_12) 35 v_4) mf mg 3 0 (by show 0 ≤ (mi 48).toInt ∧ (mi 48).toInt ≤ 139; omega)) (gdV q_1746 q_1748 q_72 q_162 q_1749) hdV_X12_emitsStep ⟨rfl, rfl⟩ ⟨(Nat.le_of_ble_eq_true rfl), (Nat.le_of_ble_eq_true rfl)⟩ ⟨(Nat.le_of_ble_eq_true rfl), (Nat.le_of_ble_eq_true rfl)⟩ 12 rfl rfl rfl rfl hl3.1 rfl (Nat.le_of_ble_eq_true rfl) dX12_readAgainEnd_17) (fun u_22 H1 locs hp hw24 => ?_)
  obtain ⟨gstepOp_25, gstepHow_26, nsteps_27⟩ := u_22
  generalize H1 = H at hw24 ⊢
  have hw28 : WD D A s.heap (MW cI cJ M mr (upd (upd (upd (upd (upd (upd mi 22 nspot_9) 23 nfrom_10) 24 ntoken_11) 25 nvalue_12) 35 v_4) 48 nsteps_27) (va_up (va_up mf 46 gstepOp_25) 47 gstepHow_26) mg) H locs := hw24
  obtain ⟨hp_29, hp_30⟩ := hp
  have hp_29 : nsteps_27.toInt = (mi 48).toInt + 1 := hp_29
  have hp_30 : EM (mf 46) (mf 47) gstepOp_25 gstepHow_26 (((mi 48).toInt).toNat) (3 : Int32) (0 : Int32) := hp_30
  refine lv_iconst (pc := 20) (v := 0) E.1 E.2.1 dX12_readAgainEnd_20 (by decide +kernel) ?_
  exact em_i (w1 := (fun (u : Int32 × Int32 × Int32 × Int32 × Int32 × Int32 × (Nat → Int32) × (Nat → Int32) × Int32 × Int32) => (MW cI cJ M mr (upd (upd (upd (upd (upd (upd (upd (upd mi 22 u.1) 23 u.2.1) 24 u.2.2.1) 25 u.2.2.2.1) 38 u.2.2.2.2.1) 39 u.2.2.2.2.2.1) 48 u.2.2.2.2.2.2.2.2.1) 35 u.2.2.2.2.2.2.2.2.2) (va_up (va_up mf 46 u.2.2.2.2.2.2.1) 47 u.2.2.2.2.2.2.2.1) mg))) E hr hlk (nspot_9, nfrom_10, ntoken_11, nvalue_12, (mi 38), (mi 39), gstepOp_25, gstepHow_26, nsteps_27, v_4) hw28 ⟨(by show 0 ≤ nfrom_10.toInt; have k_0 : (0 : Int32).toInt = 0 := (by decide +kernel); omega), (by show nfrom_10.toInt ≤ nspot_9.toInt; have k_0 : (0 : Int32).toInt = 0 := (by decide +kernel); omega), (by show nspot_9.toInt ≤ (mi 21).toInt; have k_0 : (0 : Int32).toInt = 0 := (by decide +kernel); omega), (by show 0 ≤ ntoken_11.toInt; have k_0 : (0 : Int32).toInt = 0 := (by decide +kernel); omega), (by show ntoken_11.toInt ≤ 4; have k_0 : (0 : Int32).toInt = 0 := (by decide +kernel); omega), (by show ntoken_11.toInt ≤ 4 * nspot_9.toInt - 4 * nfrom_10.toInt; have k_0 : (0 : Int32).toInt = 0 := (by decide +kernel); omega), hp_21, (fun _ => (show (∀ t : Nat, RSP (mf 46) (mf 47) (mi 6).toInt (((mi 48).toInt).toNat) (t + 1) → RSP gstepOp_25 gstepHow_26 (mi 6).toInt ((nsteps_27.toInt).toNat) t) from (fun t q => RSP_snoc q hp_30 (Or.inr (Or.inr (Or.inr ⟨rfl, (by omega), rfl⟩))) (by omega)))), (⟨rfl, (by show (mi 23).toInt + 1 ≤ nfrom_10.toInt; omega), (by show nsteps_27.toInt = (mi 48).toInt + 1; omega), (by show v_4.toInt = (mi 35).toInt - 1; omega)⟩)⟩ (Nat.le_of_ble_eq_true rfl) (Nat.le_of_ble_eq_true rfl) dX12_readAgainEnd_21

set_option maxHeartbeats 4000000 in
set_option maxRecDepth 100000 in
theorem s_isWord3 (l : Launch) (D : va_G) (cI cJ : ClassId) (sz M : Nat) (mr : Nat → Nat) (mi : Nat → Int32) (mf : Nat → Nat → Int32) (mg : Nat → Nat → Int64) (z_w : Int32)  : Met l yX12_isWord (Cond.code yX12_isWord cX12_isWord 2 (some .boolean) :: GW) ({ frames := 1, cells := 0, slots := 0, locals := 40 } : Room) (va_Pc [.ref M, .int z_w] (PW D cI cJ sz (MW cI cJ M mr mi mf mg) xT)) (va_Qi (fun (r : Int32) (u : Unit) => ((r = 1 ∧ (mi 24).toInt = 2 ∧ (mi 25).toInt = z_w.toInt) ∨ (r = 0 ∧ ¬ (mi 24).toInt = 2) ∨ (r = 0 ∧ ¬ (mi 25).toInt = z_w.toInt))) (fun u => QW D cI cJ (va_A (MW cI cJ M mr mi mf mg) sz) ((fun (u : Unit) => (MW cI cJ M mr mi mf mg)) u)) (va_A (MW cI cJ M mr mi mf mg) sz)) 0 0 (va_A (MW cI cJ M mr mi mf mg) sz) := by
  refine mk_met (y := yX12_isWord) (bytes := cX12_isWord) (maxL := 2) (avs := [.ref M, .int z_w]) (WS := (MW cI cJ M mr mi mf mg)) (Qf := fun A => va_Qi (fun (r : Int32) (u : Unit) => ((r = 1 ∧ (mi 24).toInt = 2 ∧ (mi 25).toInt = z_w.toInt) ∨ (r = 0 ∧ ¬ (mi 24).toInt = 2) ∨ (r = 0 ∧ ¬ (mi 25).toInt = z_w.toInt))) (fun u => QW D cI cJ A ((fun (u : Unit) => (MW cI cJ M mr mi mf mg)) u)) A) (by decide) (Nat.le_of_ble_eq_true rfl) ?_
  intro p e s m below meth c A ls E hr hlk hnm hX hw1 hl2
  have hl3 : lv_has ls 2 [(0, .ref M), (1, .int z_w)] := hl2
  refine lv_aload_n (pc := 0) E.1 E.2.1 dX12_isWord_0 rfl (lv_at hl3 0 rfl) ?_
  refine x_get (pc := 1) (T := TX12) (N := 70) (ci := 12) (v := .int (mi 24)) E hw1 inX12 0 24 q_1423 rfl rfl (by decide) rfl rfl dX12_isWord_1 ?_
  refine lv_iconst (pc := 4) (v := 2) E.1 E.2.1 dX12_isWord_4 (by decide +kernel) ?_
  refine lv_icmp_ne (pc := 5) (tgt := 20) E.1 E.2.1 dX12_isWord_5 (by decide) (fun c_4 => ?_) (fun c_4 => ?_)
  · skip
    have hc_4 := neE (a := (mi 24).toInt) (b := 2) rfl (by decide +kernel) c_4
    refine lv_iconst (pc := 20) (v := 0) E.1 E.2.1 dX12_isWord_20 (by decide +kernel) ?_
    exact em_z (w1 := (fun (u : Unit) => (MW cI cJ M mr mi mf mg))) E hr hlk () hw1 (Or.inr (Or.inl ⟨rfl, (by show ¬ (mi 24).toInt = 2; omega)⟩)) (by decide +kernel) (Nat.le_of_ble_eq_true rfl) (Nat.le_of_ble_eq_true rfl) dX12_isWord_21
  · skip
    have hc_4 := eqE (a := (mi 24).toInt) (b := 2) rfl (by decide +kernel) c_4
    refine lv_aload_n (pc := 8) E.1 E.2.1 dX12_isWord_8 rfl (lv_at hl3 0 rfl) ?_
    refine x_get (pc := 9) (T := TX12) (N := 70) (ci := 12) (v := .int (mi 25)) E hw1 inX12 0 25 q_1424 rfl rfl (by decide) rfl rfl dX12_isWord_9 ?_
    refine lv_iload_n (pc := 12) E.1 E.2.1 dX12_isWord_12 rfl (lv_at hl3 1 rfl) ?_
    refine lv_icmp_ne (pc := 13) (tgt := 20) E.1 E.2.1 dX12_isWord_13 (by decide) (fun c_5 => ?_) (fun c_5 => ?_)
    · skip
      have hc_5 := neE (a := (mi 25).toInt) (b := z_w.toInt) rfl rfl c_5
      refine lv_iconst (pc := 20) (v := 0) E.1 E.2.1 dX12_isWord_20 (by decide +kernel) ?_
      exact em_z (w1 := (fun (u : Unit) => (MW cI cJ M mr mi mf mg))) E hr hlk () hw1 (Or.inr (Or.inl ⟨rfl, (by show ¬ (mi 24).toInt = 2; omega)⟩)) (by decide +kernel) (Nat.le_of_ble_eq_true rfl) (Nat.le_of_ble_eq_true rfl) dX12_isWord_21
    · skip
      have hc_5 := eqE (a := (mi 25).toInt) (b := z_w.toInt) rfl rfl c_5
      refine lv_iconst (pc := 16) (v := 1) E.1 E.2.1 dX12_isWord_16 (by decide +kernel) ?_
      refine lv_goto (pc := 17) (tgt := 21) E.1 E.2.1 dX12_isWord_17 (by decide) ?_
      exact em_z (w1 := (fun (u : Unit) => (MW cI cJ M mr mi mf mg))) E hr hlk () hw1 (Or.inl ⟨rfl, (by show (mi 24).toInt = 2; omega), (by show (mi 25).toInt = z_w.toInt; omega)⟩) (by decide +kernel) (Nat.le_of_ble_eq_true rfl) (Nat.le_of_ble_eq_true rfl) dX12_isWord_21

set_option maxHeartbeats 4000000 in
set_option maxRecDepth 100000 in
theorem s_isSign3 (l : Launch) (D : va_G) (cI cJ : ClassId) (sz M : Nat) (mr : Nat → Nat) (mi : Nat → Int32) (mf : Nat → Nat → Int32) (mg : Nat → Nat → Int64) (z_c : Int32)  : Met l yX12_isSign (Cond.code yX12_isSign cX12_isSign 2 (some .boolean) :: GW) ({ frames := 1, cells := 0, slots := 0, locals := 40 } : Room) (va_Pc [.ref M, .int z_c] (PW D cI cJ sz (MW cI cJ M mr mi mf mg) xT)) (va_Qi (fun (r : Int32) (u : Unit) => ((r = 1 ∧ (mi 24).toInt = 4 ∧ (mi 25).toInt = z_c.toInt) ∨ (r = 0 ∧ ¬ (mi 24).toInt = 4) ∨ (r = 0 ∧ ¬ (mi 25).toInt = z_c.toInt))) (fun u => QW D cI cJ (va_A (MW cI cJ M mr mi mf mg) sz) ((fun (u : Unit) => (MW cI cJ M mr mi mf mg)) u)) (va_A (MW cI cJ M mr mi mf mg) sz)) 0 0 (va_A (MW cI cJ M mr mi mf mg) sz) := by
  refine mk_met (y := yX12_isSign) (bytes := cX12_isSign) (maxL := 2) (avs := [.ref M, .int z_c]) (WS := (MW cI cJ M mr mi mf mg)) (Qf := fun A => va_Qi (fun (r : Int32) (u : Unit) => ((r = 1 ∧ (mi 24).toInt = 4 ∧ (mi 25).toInt = z_c.toInt) ∨ (r = 0 ∧ ¬ (mi 24).toInt = 4) ∨ (r = 0 ∧ ¬ (mi 25).toInt = z_c.toInt))) (fun u => QW D cI cJ A ((fun (u : Unit) => (MW cI cJ M mr mi mf mg)) u)) A) (by decide) (Nat.le_of_ble_eq_true rfl) ?_
  intro p e s m below meth c A ls E hr hlk hnm hX hw1 hl2
  have hl3 : lv_has ls 2 [(0, .ref M), (1, .int z_c)] := hl2
  refine lv_aload_n (pc := 0) E.1 E.2.1 dX12_isSign_0 rfl (lv_at hl3 0 rfl) ?_
  refine x_get (pc := 1) (T := TX12) (N := 70) (ci := 12) (v := .int (mi 24)) E hw1 inX12 0 24 q_1423 rfl rfl (by decide) rfl rfl dX12_isSign_1 ?_
  refine lv_iconst (pc := 4) (v := 4) E.1 E.2.1 dX12_isSign_4 (by decide +kernel) ?_
  refine lv_icmp_ne (pc := 5) (tgt := 20) E.1 E.2.1 dX12_isSign_5 (by decide) (fun c_4 => ?_) (fun c_4 => ?_)
  · skip
    have hc_4 := neE (a := (mi 24).toInt) (b := 4) rfl (by decide +kernel) c_4
    refine lv_iconst (pc := 20) (v := 0) E.1 E.2.1 dX12_isSign_20 (by decide +kernel) ?_
    exact em_z (w1 := (fun (u : Unit) => (MW cI cJ M mr mi mf mg))) E hr hlk () hw1 (Or.inr (Or.inl ⟨rfl, (by show ¬ (mi 24).toInt = 4; omega)⟩)) (by decide +kernel) (Nat.le_of_ble_eq_true rfl) (Nat.le_of_ble_eq_true rfl) dX12_isSign_21
  · skip
    have hc_4 := eqE (a := (mi 24).toInt) (b := 4) rfl (by decide +kernel) c_4
    refine lv_aload_n (pc := 8) E.1 E.2.1 dX12_isSign_8 rfl (lv_at hl3 0 rfl) ?_
    refine x_get (pc := 9) (T := TX12) (N := 70) (ci := 12) (v := .int (mi 25)) E hw1 inX12 0 25 q_1424 rfl rfl (by decide) rfl rfl dX12_isSign_9 ?_
    refine lv_iload_n (pc := 12) E.1 E.2.1 dX12_isSign_12 rfl (lv_at hl3 1 rfl) ?_
    refine lv_icmp_ne (pc := 13) (tgt := 20) E.1 E.2.1 dX12_isSign_13 (by decide) (fun c_5 => ?_) (fun c_5 => ?_)
    · skip
      have hc_5 := neE (a := (mi 25).toInt) (b := z_c.toInt) rfl rfl c_5
      refine lv_iconst (pc := 20) (v := 0) E.1 E.2.1 dX12_isSign_20 (by decide +kernel) ?_
      exact em_z (w1 := (fun (u : Unit) => (MW cI cJ M mr mi mf mg))) E hr hlk () hw1 (Or.inr (Or.inl ⟨rfl, (by show ¬ (mi 24).toInt = 4; omega)⟩)) (by decide +kernel) (Nat.le_of_ble_eq_true rfl) (Nat.le_of_ble_eq_true rfl) dX12_isSign_21
    · skip
      have hc_5 := eqE (a := (mi 25).toInt) (b := z_c.toInt) rfl rfl c_5
      refine lv_iconst (pc := 16) (v := 1) E.1 E.2.1 dX12_isSign_16 (by decide +kernel) ?_
      refine lv_goto (pc := 17) (tgt := 21) E.1 E.2.1 dX12_isSign_17 (by decide) ?_
      exact em_z (w1 := (fun (u : Unit) => (MW cI cJ M mr mi mf mg))) E hr hlk () hw1 (Or.inl ⟨rfl, (by show (mi 24).toInt = 4; omega), (by show (mi 25).toInt = z_c.toInt; omega)⟩) (by decide +kernel) (Nat.le_of_ble_eq_true rfl) (Nat.le_of_ble_eq_true rfl) dX12_isSign_21

set_option maxHeartbeats 4000000 in
set_option maxRecDepth 100000 in
theorem s_isStep (l : Launch) (D : va_G) (cI cJ : ClassId) (sz M : Nat) (mr : Nat → Nat) (mi : Nat → Int32) (mf : Nat → Nat → Int32) (mg : Nat → Nat → Int64)   : Met l yX12_isStep (Cond.code yX12_isStep cX12_isStep 1 (some .boolean) :: GW) ({ frames := 2, cells := 0, slots := 0, locals := 61 } : Room) (va_Pc [.ref M] (PW D cI cJ sz (MW cI cJ M mr mi mf mg) xT)) (va_Qi (fun (r : Int32) (u : Unit) => ((r = 1 ∧ (mi 24).toInt = 2 ∧ (mi 25).toInt = 28) ∨ (r = 1 ∧ (mi 24).toInt = 2 ∧ (mi 25).toInt = 29) ∨ (r = 0 ∧ ¬ (mi 24).toInt = 2) ∨ (r = 0 ∧ ¬ (mi 25).toInt = 28 ∧ ¬ (mi 25).toInt = 29))) (fun u => QW D cI cJ (va_A (MW cI cJ M mr mi mf mg) sz) ((fun (u : Unit) => (MW cI cJ M mr mi mf mg)) u)) (va_A (MW cI cJ M mr mi mf mg) sz)) 0 0 (va_A (MW cI cJ M mr mi mf mg) sz) := by
  refine mk_met (y := yX12_isStep) (bytes := cX12_isStep) (maxL := 1) (avs := [.ref M]) (WS := (MW cI cJ M mr mi mf mg)) (Qf := fun A => va_Qi (fun (r : Int32) (u : Unit) => ((r = 1 ∧ (mi 24).toInt = 2 ∧ (mi 25).toInt = 28) ∨ (r = 1 ∧ (mi 24).toInt = 2 ∧ (mi 25).toInt = 29) ∨ (r = 0 ∧ ¬ (mi 24).toInt = 2) ∨ (r = 0 ∧ ¬ (mi 25).toInt = 28 ∧ ¬ (mi 25).toInt = 29))) (fun u => QW D cI cJ A ((fun (u : Unit) => (MW cI cJ M mr mi mf mg)) u)) A) (by decide) (Nat.le_of_ble_eq_true rfl) ?_
  intro p e s m below meth c A ls E hr hlk hnm hX hw1 hl2
  have hl3 : lv_has ls 1 [(0, .ref M)] := hl2
  refine lv_aload_n (pc := 0) E.1 E.2.1 dX12_isStep_0 rfl (lv_at hl3 0 rfl) ?_
  refine lv_bipush (pc := 1) (v := 28) E.1 E.2.1 dX12_isStep_1 (by decide +kernel) ?_
  refine cm_i (pc := 3) hw1 (rn_M (As := [.int 28]) (rest := []) E hw1 (s_isWord3 l D cI cJ _ M mr mi mf mg 28) (gdV q_1694 q_1696 q_59 q_162 q_1697) hdV_X12_isWord ⟨rfl, rfl⟩ ⟨(Nat.le_of_ble_eq_true rfl), (Nat.le_of_ble_eq_true rfl)⟩ ⟨(Nat.le_of_ble_eq_true rfl), (Nat.le_of_ble_eq_true rfl)⟩ 12 rfl rfl rfl rfl hl3.1 rfl (Nat.le_of_ble_eq_true rfl) dX12_isStep_3) (fun r_5 u_4 H1 locs hp hw6 => ?_)
  generalize H1 = H at hw6 ⊢
  have hw7 : WD D A s.heap (MW cI cJ M mr mi mf mg) H locs := hw6
  have hp_8 := hp
  rcases hp_8 with ⟨rfl, ha_9, ha_10⟩ | ⟨rfl, ha_11⟩ | ⟨rfl, ha_12⟩
  · skip
    have ha_9 : (mi 24).toInt = 2 := ha_9
    have ha_10 : (mi 25).toInt = (28 : Int32).toInt := ha_10
    rw [show (28 : Int32).toInt = 28 from by decide +kernel] at ha_10
    refine lv_if_ne (pc := 6) (tgt := 18) E.1 E.2.1 dX12_isStep_6 (by decide) (fun _ => ?_) (fun c_13 => absurd c_13 (mneE (a := 1) (b := 0) (by decide +kernel) (by decide +kernel) (by omega)))
    refine lv_iconst (pc := 18) (v := 1) E.1 E.2.1 dX12_isStep_18 (by decide +kernel) ?_
    refine lv_goto (pc := 19) (tgt := 23) E.1 E.2.1 dX12_isStep_19 (by decide) ?_
    exact em_z (w1 := (fun (u : Unit) => (MW cI cJ M mr mi mf mg))) E hr hlk () hw7 (Or.inl ⟨rfl, (by show (mi 24).toInt = 2; omega), (by show (mi 25).toInt = 28; omega)⟩) (by decide +kernel) (Nat.le_of_ble_eq_true rfl) (Nat.le_of_ble_eq_true rfl) dX12_isStep_23
  · skip
    have ha_11 : ¬ (mi 24).toInt = 2 := ha_11
    refine lv_if_ne (pc := 6) (tgt := 18) E.1 E.2.1 dX12_isStep_6 (by decide) (fun c_14 => absurd (meqE (a := 0) (b := 0) (by decide +kernel) (by decide +kernel) (by omega)) c_14) (fun _ => ?_)
    refine lv_aload_n (pc := 9) E.1 E.2.1 dX12_isStep_9 rfl (lv_at hl3 0 rfl) ?_
    refine lv_bipush (pc := 10) (v := 29) E.1 E.2.1 dX12_isStep_10 (by decide +kernel) ?_
    refine cm_i (pc := 12) hw7 (rn_M (As := [.int 29]) (rest := []) E hw7 (s_isWord3 l D cI cJ _ M mr mi mf mg 29) (gdV q_1694 q_1696 q_59 q_162 q_1697) hdV_X12_isWord ⟨rfl, rfl⟩ ⟨(Nat.le_of_ble_eq_true rfl), (Nat.le_of_ble_eq_true rfl)⟩ ⟨(Nat.le_of_ble_eq_true rfl), (Nat.le_of_ble_eq_true rfl)⟩ 12 rfl rfl rfl rfl hl3.1 rfl (Nat.le_of_ble_eq_true rfl) dX12_isStep_12) (fun r_16 u_15 H1 locs hp hw17 => ?_)
    generalize H1 = H at hw17 ⊢
    have hw18 : WD D A s.heap (MW cI cJ M mr mi mf mg) H locs := hw17
    have hp_19 := hp
    rcases hp_19 with ⟨rfl, ha_20, ha_21⟩ | ⟨rfl, ha_22⟩ | ⟨rfl, ha_23⟩
    · skip
      have ha_20 : (mi 24).toInt = 2 := ha_20
      have ha_21 : (mi 25).toInt = (29 : Int32).toInt := ha_21
      rw [show (29 : Int32).toInt = 29 from by decide +kernel] at ha_21
      exfalso; omega
    · skip
      have ha_22 : ¬ (mi 24).toInt = 2 := ha_22
      refine lv_if_eq (pc := 15) (tgt := 22) E.1 E.2.1 dX12_isStep_15 (by decide) (fun _ => ?_) (fun c_24 => absurd (meqE (a := 0) (b := 0) (by decide +kernel) (by decide +kernel) (by omega)) c_24)
      refine lv_iconst (pc := 22) (v := 0) E.1 E.2.1 dX12_isStep_22 (by decide +kernel) ?_
      exact em_z (w1 := (fun (u : Unit) => (MW cI cJ M mr mi mf mg))) E hr hlk () hw18 (Or.inr (Or.inr (Or.inl ⟨rfl, (by show ¬ (mi 24).toInt = 2; omega)⟩))) (by decide +kernel) (Nat.le_of_ble_eq_true rfl) (Nat.le_of_ble_eq_true rfl) dX12_isStep_23
    · skip
      have ha_23 : ¬ (mi 25).toInt = (29 : Int32).toInt := ha_23
      rw [show (29 : Int32).toInt = 29 from by decide +kernel] at ha_23
      refine lv_if_eq (pc := 15) (tgt := 22) E.1 E.2.1 dX12_isStep_15 (by decide) (fun _ => ?_) (fun c_25 => absurd (meqE (a := 0) (b := 0) (by decide +kernel) (by decide +kernel) (by omega)) c_25)
      refine lv_iconst (pc := 22) (v := 0) E.1 E.2.1 dX12_isStep_22 (by decide +kernel) ?_
      exact em_z (w1 := (fun (u : Unit) => (MW cI cJ M mr mi mf mg))) E hr hlk () hw18 (Or.inr (Or.inr (Or.inl ⟨rfl, (by show ¬ (mi 24).toInt = 2; omega)⟩))) (by decide +kernel) (Nat.le_of_ble_eq_true rfl) (Nat.le_of_ble_eq_true rfl) dX12_isStep_23
  · skip
    have ha_12 : ¬ (mi 25).toInt = (28 : Int32).toInt := ha_12
    rw [show (28 : Int32).toInt = 28 from by decide +kernel] at ha_12
    refine lv_if_ne (pc := 6) (tgt := 18) E.1 E.2.1 dX12_isStep_6 (by decide) (fun c_26 => absurd (meqE (a := 0) (b := 0) (by decide +kernel) (by decide +kernel) (by omega)) c_26) (fun _ => ?_)
    refine lv_aload_n (pc := 9) E.1 E.2.1 dX12_isStep_9 rfl (lv_at hl3 0 rfl) ?_
    refine lv_bipush (pc := 10) (v := 29) E.1 E.2.1 dX12_isStep_10 (by decide +kernel) ?_
    refine cm_i (pc := 12) hw7 (rn_M (As := [.int 29]) (rest := []) E hw7 (s_isWord3 l D cI cJ _ M mr mi mf mg 29) (gdV q_1694 q_1696 q_59 q_162 q_1697) hdV_X12_isWord ⟨rfl, rfl⟩ ⟨(Nat.le_of_ble_eq_true rfl), (Nat.le_of_ble_eq_true rfl)⟩ ⟨(Nat.le_of_ble_eq_true rfl), (Nat.le_of_ble_eq_true rfl)⟩ 12 rfl rfl rfl rfl hl3.1 rfl (Nat.le_of_ble_eq_true rfl) dX12_isStep_12) (fun r_28 u_27 H1 locs hp hw29 => ?_)
    generalize H1 = H at hw29 ⊢
    have hw30 : WD D A s.heap (MW cI cJ M mr mi mf mg) H locs := hw29
    have hp_31 := hp
    rcases hp_31 with ⟨rfl, ha_32, ha_33⟩ | ⟨rfl, ha_34⟩ | ⟨rfl, ha_35⟩
    · skip
      have ha_32 : (mi 24).toInt = 2 := ha_32
      have ha_33 : (mi 25).toInt = (29 : Int32).toInt := ha_33
      rw [show (29 : Int32).toInt = 29 from by decide +kernel] at ha_33
      refine lv_if_eq (pc := 15) (tgt := 22) E.1 E.2.1 dX12_isStep_15 (by decide) (fun c_36 => absurd c_36 (mneE (a := 1) (b := 0) (by decide +kernel) (by decide +kernel) (by omega))) (fun _ => ?_)
      refine lv_iconst (pc := 18) (v := 1) E.1 E.2.1 dX12_isStep_18 (by decide +kernel) ?_
      refine lv_goto (pc := 19) (tgt := 23) E.1 E.2.1 dX12_isStep_19 (by decide) ?_
      exact em_z (w1 := (fun (u : Unit) => (MW cI cJ M mr mi mf mg))) E hr hlk () hw30 (Or.inr (Or.inl ⟨rfl, (by show (mi 24).toInt = 2; omega), (by show (mi 25).toInt = 29; omega)⟩)) (by decide +kernel) (Nat.le_of_ble_eq_true rfl) (Nat.le_of_ble_eq_true rfl) dX12_isStep_23
    · skip
      have ha_34 : ¬ (mi 24).toInt = 2 := ha_34
      refine lv_if_eq (pc := 15) (tgt := 22) E.1 E.2.1 dX12_isStep_15 (by decide) (fun _ => ?_) (fun c_37 => absurd (meqE (a := 0) (b := 0) (by decide +kernel) (by decide +kernel) (by omega)) c_37)
      refine lv_iconst (pc := 22) (v := 0) E.1 E.2.1 dX12_isStep_22 (by decide +kernel) ?_
      exact em_z (w1 := (fun (u : Unit) => (MW cI cJ M mr mi mf mg))) E hr hlk () hw30 (Or.inr (Or.inr (Or.inl ⟨rfl, (by show ¬ (mi 24).toInt = 2; omega)⟩))) (by decide +kernel) (Nat.le_of_ble_eq_true rfl) (Nat.le_of_ble_eq_true rfl) dX12_isStep_23
    · skip
      have ha_35 : ¬ (mi 25).toInt = (29 : Int32).toInt := ha_35
      rw [show (29 : Int32).toInt = 29 from by decide +kernel] at ha_35
      refine lv_if_eq (pc := 15) (tgt := 22) E.1 E.2.1 dX12_isStep_15 (by decide) (fun _ => ?_) (fun c_38 => absurd (meqE (a := 0) (b := 0) (by decide +kernel) (by decide +kernel) (by omega)) c_38)
      refine lv_iconst (pc := 22) (v := 0) E.1 E.2.1 dX12_isStep_22 (by decide +kernel) ?_
      exact em_z (w1 := (fun (u : Unit) => (MW cI cJ M mr mi mf mg))) E hr hlk () hw30 (Or.inr (Or.inr (Or.inl ⟨rfl, (by show ¬ (mi 24).toInt = 2; omega)⟩))) (by decide +kernel) (Nat.le_of_ble_eq_true rfl) (Nat.le_of_ble_eq_true rfl) dX12_isStep_23

set_option maxHeartbeats 4000000 in
set_option maxRecDepth 100000 in
theorem s_readSteps (l : Launch) (D : va_G) (cI cJ : ClassId) (sz M : Nat) (mr : Nat → Nat) (mi : Nat → Int32) (mf : Nat → Nat → Int32) (mg : Nat → Nat → Int64)  (h0 : 0 ≤ (mi 23).toInt) (h1 : (mi 23).toInt ≤ (mi 22).toInt) (h2 : (mi 22).toInt ≤ (mi 21).toInt) (h3 : (mi 21).toInt ≤ 400) (h4 : 0 ≤ (mi 24).toInt) (h5 : (mi 24).toInt ≤ 4) (h6 : (mi 24).toInt ≤ 4 * (mi 22).toInt - 4 * (mi 23).toInt) (h7 : ((mf 26) 153).toInt = 32) (h8 : 0 ≤ (mi 6).toInt ∧ (mi 6).toInt ≤ 10) (h9 : (mi 35).toInt = 0) (lf_words : (∀ j : Nat, j < 154 → (mf 26) j = w0 j)) (lf_again : ((mi 24).toInt = 2 → (mi 25).toInt = 30 → (mi 23).toInt + 3 ≤ (mi 22).toInt)) : Met l yX12_readSteps (Cond.code yX12_readSteps cX12_readSteps 2 (some .int) :: GW) ({ frames := 6, cells := 0, slots := 0, locals := 150 } : Room) (va_Pc [.ref M] (PW D cI cJ sz (MW cI cJ M mr mi mf mg) xT)) (va_Qi (fun (r : Int32) (u : Int32 × Int32 × Int32 × Int32 × Int32 × Int32 × (Nat → Int32) × (Nat → Int32) × Int32 × Int32) => (0 ≤ u.2.1.toInt) ∧ (u.2.1.toInt ≤ u.1.toInt) ∧ (u.1.toInt ≤ (mi 21).toInt) ∧ (0 ≤ u.2.2.1.toInt) ∧ (u.2.2.1.toInt ≤ 4) ∧ (u.2.2.1.toInt ≤ 4 * u.1.toInt - 4 * u.2.1.toInt) ∧ ((u.2.2.1.toInt = 2 → u.2.2.2.1.toInt = 30 → u.2.1.toInt + 3 ≤ u.1.toInt)) ∧ (r = 0 → (∃ t : Nat, RSP u.2.2.2.2.2.2.1 u.2.2.2.2.2.2.2.1 (mi 6).toInt ((u.2.2.2.2.2.2.2.2.1.toInt).toNat) t)) ∧ ((r = (-1)) ∨ (r = 0 ∧ 0 ≤ u.2.2.2.2.2.2.2.2.1.toInt ∧ u.2.2.2.2.2.2.2.2.1.toInt ≤ 140))) (fun u => QW D cI cJ (va_A (MW cI cJ M mr mi mf mg) sz) ((fun (u : Int32 × Int32 × Int32 × Int32 × Int32 × Int32 × (Nat → Int32) × (Nat → Int32) × Int32 × Int32) => (MW cI cJ M mr (upd (upd (upd (upd (upd (upd (upd (upd mi 22 u.1) 23 u.2.1) 24 u.2.2.1) 25 u.2.2.2.1) 38 u.2.2.2.2.1) 39 u.2.2.2.2.2.1) 48 u.2.2.2.2.2.2.2.2.1) 35 u.2.2.2.2.2.2.2.2.2) (va_up (va_up mf 46 u.2.2.2.2.2.2.1) 47 u.2.2.2.2.2.2.2.1) mg)) u)) (va_A (MW cI cJ M mr mi mf mg) sz)) 0 0 (va_A (MW cI cJ M mr mi mf mg) sz) := by
  refine mk_met (y := yX12_readSteps) (bytes := cX12_readSteps) (maxL := 2) (avs := [.ref M]) (WS := (MW cI cJ M mr mi mf mg)) (Qf := fun A => va_Qi (fun (r : Int32) (u : Int32 × Int32 × Int32 × Int32 × Int32 × Int32 × (Nat → Int32) × (Nat → Int32) × Int32 × Int32) => (0 ≤ u.2.1.toInt) ∧ (u.2.1.toInt ≤ u.1.toInt) ∧ (u.1.toInt ≤ (mi 21).toInt) ∧ (0 ≤ u.2.2.1.toInt) ∧ (u.2.2.1.toInt ≤ 4) ∧ (u.2.2.1.toInt ≤ 4 * u.1.toInt - 4 * u.2.1.toInt) ∧ ((u.2.2.1.toInt = 2 → u.2.2.2.1.toInt = 30 → u.2.1.toInt + 3 ≤ u.1.toInt)) ∧ (r = 0 → (∃ t : Nat, RSP u.2.2.2.2.2.2.1 u.2.2.2.2.2.2.2.1 (mi 6).toInt ((u.2.2.2.2.2.2.2.2.1.toInt).toNat) t)) ∧ ((r = (-1)) ∨ (r = 0 ∧ 0 ≤ u.2.2.2.2.2.2.2.2.1.toInt ∧ u.2.2.2.2.2.2.2.2.1.toInt ≤ 140))) (fun u => QW D cI cJ A ((fun (u : Int32 × Int32 × Int32 × Int32 × Int32 × Int32 × (Nat → Int32) × (Nat → Int32) × Int32 × Int32) => (MW cI cJ M mr (upd (upd (upd (upd (upd (upd (upd (upd mi 22 u.1) 23 u.2.1) 24 u.2.2.1) 25 u.2.2.2.1) 38 u.2.2.2.2.1) 39 u.2.2.2.2.2.1) 48 u.2.2.2.2.2.2.2.2.1) 35 u.2.2.2.2.2.2.2.2.2) (va_up (va_up mf 46 u.2.2.2.2.2.2.1) 47 u.2.2.2.2.2.2.2.1) mg)) u)) A) (by decide) (Nat.le_of_ble_eq_true rfl) ?_
  intro p e s m below meth c A ls E hr hlk hnm hX hw1 hl2
  have hl3 : lv_has ls 2 [(0, .ref M)] := hl2
  refine lv_aload_n (pc := 0) E.1 E.2.1 dX12_readSteps_0 rfl (lv_at hl3 0 rfl) ?_
  refine lv_iconst (pc := 1) (v := 0) E.1 E.2.1 dX12_readSteps_1 (by decide +kernel) ?_
  refine x_put (pc := 2) (T := TX12) (N := 70) (ci := 12) (ws' := (MW cI cJ M mr (upd mi 48 0) mf mg)) E hw1 inX12 tyX12_ok nmX12 0 48 q_1447 rfl rfl (by decide) rfl rfl rfl rfl (Nat.le_of_ble_eq_true rfl) rfl dX12_readSteps_2 (fun H locs hw4 => ?_)
  have loop_5 : ∀ (k : Nat) (x_6 : Int32) (x_7 : Int32) (x_8 : Int32) (x_9 : Int32) (x_10 : Int32) (x_11 : Int32) (x_12 : Int32) (x_13 : Int32) (g_14 : Nat → Int32) (g_15 : Nat → Int32) (H : Heap) (locs : List Loc) (ls : Array Slot), (0 ≤ x_7.toInt) ∧ (x_7.toInt ≤ x_6.toInt) ∧ (x_6.toInt ≤ (mi 21).toInt) ∧ (0 ≤ x_8.toInt) ∧ (x_8.toInt ≤ 4) ∧ (x_8.toInt ≤ 4 * x_6.toInt - 4 * x_7.toInt) ∧ (0 ≤ x_12.toInt) ∧ (3 * x_12.toInt + 2 * x_13.toInt ≤ x_7.toInt) ∧ (0 ≤ x_13.toInt) ∧ (x_13.toInt ≤ 4) ∧ (RSP g_14 g_15 (mi 6).toInt ((x_12.toInt).toNat) (x_13.toInt).toNat) ∧ ((x_8.toInt = 2 → x_9.toInt = 30 → x_7.toInt + 3 ≤ x_6.toInt)) → (mi 21).toInt - x_7.toInt < (k : Int) → WD D A s.heap (MW cI cJ M mr (upd (upd (upd (upd (upd (upd (upd (upd mi 22 x_6) 23 x_7) 24 x_8) 25 x_9) 35 x_13) 38 x_10) 39 x_11) 48 x_12) (va_up (va_up mf 46 g_14) 47 g_15) mg) H locs → lv_has ls 2 [(0, .ref M)] → W p l e ({ frames := 6, cells := 0, slots := 0, locals := 150 } : Room) s m ([.ref M] : List Value).toArray below meth c H locs 0 0 (MQ below (va_Qi (fun (r : Int32) (u : Int32 × Int32 × Int32 × Int32 × Int32 × Int32 × (Nat → Int32) × (Nat → Int32) × Int32 × Int32) => (0 ≤ u.2.1.toInt) ∧ (u.2.1.toInt ≤ u.1.toInt) ∧ (u.1.toInt ≤ (mi 21).toInt) ∧ (0 ≤ u.2.2.1.toInt) ∧ (u.2.2.1.toInt ≤ 4) ∧ (u.2.2.1.toInt ≤ 4 * u.1.toInt - 4 * u.2.1.toInt) ∧ ((u.2.2.1.toInt = 2 → u.2.2.2.1.toInt = 30 → u.2.1.toInt + 3 ≤ u.1.toInt)) ∧ (r = 0 → (∃ t : Nat, RSP u.2.2.2.2.2.2.1 u.2.2.2.2.2.2.2.1 (mi 6).toInt ((u.2.2.2.2.2.2.2.2.1.toInt).toNat) t)) ∧ ((r = (-1)) ∨ (r = 0 ∧ 0 ≤ u.2.2.2.2.2.2.2.2.1.toInt ∧ u.2.2.2.2.2.2.2.2.1.toInt ≤ 140))) (fun u => QW D cI cJ A ((fun (u : Int32 × Int32 × Int32 × Int32 × Int32 × Int32 × (Nat → Int32) × (Nat → Int32) × Int32 × Int32) => (MW cI cJ M mr (upd (upd (upd (upd (upd (upd (upd (upd mi 22 u.1) 23 u.2.1) 24 u.2.2.1) 25 u.2.2.2.1) 38 u.2.2.2.2.1) 39 u.2.2.2.2.2.1) 48 u.2.2.2.2.2.2.2.2.1) 35 u.2.2.2.2.2.2.2.2.2) (va_up (va_up mf 46 u.2.2.2.2.2.2.1) 47 u.2.2.2.2.2.2.2.1) mg)) u)) A) ([.ref M] : List Value).toArray s 0 0 A) (F0 m 5 ls []) := by
    intro k
    induction k with
    | zero =>
      intro x_6 x_7 x_8 x_9 x_10 x_11 x_12 x_13 g_14 g_15 _ _ _ hinv hm
      obtain ⟨hi_15_0, hi_15_1, hi_15_2, hi_15_3, hi_15_4, hi_15_5, hi_15_6, hi_15_7, hi_15_8, hi_15_9, hi_15_10, hi_15_11⟩ := hinv
      exact absurd hm (by omega)
    | succ k ih_16 =>
      intro x_6 x_7 x_8 x_9 x_10 x_11 x_12 x_13 g_14 g_15 H locs ls hinv hm hw17 hl18
      obtain ⟨hi_15_0, hi_15_1, hi_15_2, hi_15_3, hi_15_4, hi_15_5, hi_15_6, hi_15_7, hi_15_8, hi_15_9, hi_15_10, hi_15_11⟩ := hinv
      have join_19 : ∀ (H : Heap) (locs : List Loc) (ls : Array Slot), ((x_8.toInt = 2 ∧ x_9.toInt = 28) ∨ (x_8.toInt = 2 ∧ x_9.toInt = 29) ∨ (x_8.toInt = 2 ∧ x_9.toInt = 30) ∨ (0 < x_13.toInt ∧ x_8.toInt = 4 ∧ x_9.toInt = 41)) ∧ ((x_8.toInt = 2 → x_9.toInt = 30 → x_7.toInt + 3 ≤ x_6.toInt)) → WD D A s.heap (MW cI cJ M mr (upd (upd (upd (upd (upd (upd (upd (upd mi 22 x_6) 23 x_7) 24 x_8) 25 x_9) 35 x_13) 38 x_10) 39 x_11) 48 x_12) (va_up (va_up mf 46 g_14) 47 g_15) mg) H locs → lv_has ls 2 [(0, .ref M)] → W p l e ({ frames := 6, cells := 0, slots := 0, locals := 150 } : Room) s m ([.ref M] : List Value).toArray below meth c H locs 0 0 (MQ below (va_Qi (fun (r : Int32) (u : Int32 × Int32 × Int32 × Int32 × Int32 × Int32 × (Nat → Int32) × (Nat → Int32) × Int32 × Int32) => (0 ≤ u.2.1.toInt) ∧ (u.2.1.toInt ≤ u.1.toInt) ∧ (u.1.toInt ≤ (mi 21).toInt) ∧ (0 ≤ u.2.2.1.toInt) ∧ (u.2.2.1.toInt ≤ 4) ∧ (u.2.2.1.toInt ≤ 4 * u.1.toInt - 4 * u.2.1.toInt) ∧ ((u.2.2.1.toInt = 2 → u.2.2.2.1.toInt = 30 → u.2.1.toInt + 3 ≤ u.1.toInt)) ∧ (r = 0 → (∃ t : Nat, RSP u.2.2.2.2.2.2.1 u.2.2.2.2.2.2.2.1 (mi 6).toInt ((u.2.2.2.2.2.2.2.2.1.toInt).toNat) t)) ∧ ((r = (-1)) ∨ (r = 0 ∧ 0 ≤ u.2.2.2.2.2.2.2.2.1.toInt ∧ u.2.2.2.2.2.2.2.2.1.toInt ≤ 140))) (fun u => QW D cI cJ A ((fun (u : Int32 × Int32 × Int32 × Int32 × Int32 × Int32 × (Nat → Int32) × (Nat → Int32) × Int32 × Int32) => (MW cI cJ M mr (upd (upd (upd (upd (upd (upd (upd (upd mi 22 u.1) 23 u.2.1) 24 u.2.2.1) 25 u.2.2.2.1) 38 u.2.2.2.2.1) 39 u.2.2.2.2.2.1) 48 u.2.2.2.2.2.2.2.2.1) 35 u.2.2.2.2.2.2.2.2.2) (va_up (va_up mf 46 u.2.2.2.2.2.2.1) 47 u.2.2.2.2.2.2.2.1) mg)) u)) A) ([.ref M] : List Value).toArray s 0 0 A) (F0 m 37 ls []) := by
        intro  H locs ls hinv hw20 hl21
        obtain ⟨hj_19_0, hj_19_1⟩ := hinv
        refine lv_aload_n (pc := 37) E.1 E.2.1 dX12_readSteps_37 rfl (lv_at hl21 0 rfl) ?_
        refine cm_i (pc := 38) hw20 (rn_M (As := []) (rest := []) E hw20 (s_isStep l D cI cJ _ M mr (upd (upd (upd (upd (upd (upd (upd (upd mi 22 x_6) 23 x_7) 24 x_8) 25 x_9) 35 x_13) 38 x_10) 39 x_11) 48 x_12) (va_up (va_up mf 46 g_14) 47 g_15) mg ) (gdV q_1738 q_1740 q_70 q_162 q_1741) hdV_X12_isStep ⟨rfl, rfl⟩ ⟨(Nat.le_of_ble_eq_true rfl), (Nat.le_of_ble_eq_true rfl)⟩ ⟨(Nat.le_of_ble_eq_true rfl), (Nat.le_of_ble_eq_true rfl)⟩ 12 rfl rfl rfl rfl hl21.1 rfl (Nat.le_of_ble_eq_true rfl) dX12_readSteps_38) (fun r_23 u_22 H1 locs hp hw24 => ?_)
        generalize H1 = H at hw24 ⊢
        have hw25 : WD D A s.heap (MW cI cJ M mr (upd (upd (upd (upd (upd (upd (upd (upd mi 22 x_6) 23 x_7) 24 x_8) 25 x_9) 35 x_13) 38 x_10) 39 x_11) 48 x_12) (va_up (va_up mf 46 g_14) 47 g_15) mg) H locs := hw24
        have hp_26 := hp
        rcases hp_26 with ⟨rfl, ha_27, ha_28⟩ | ⟨rfl, ha_29, ha_30⟩ | ⟨rfl, ha_31⟩ | ⟨rfl, ha_32, ha_33⟩
        · skip
          have ha_27 : x_8.toInt = 2 := ha_27
          have ha_28 : x_9.toInt = 28 := ha_28
          refine lv_if_eq (pc := 41) (tgt := 51) E.1 E.2.1 dX12_readSteps_41 (by decide) (fun c_34 => absurd c_34 (mneE (a := 1) (b := 0) (by decide +kernel) (by decide +kernel) (by omega))) (fun _ => ?_)
          refine lv_aload_n (pc := 44) E.1 E.2.1 dX12_readSteps_44 rfl (lv_at hl21 0 rfl) ?_
          refine cm_i (pc := 45) hw25 (rn_M (As := []) (rest := []) E hw25 (s_readStep l D cI cJ _ M mr (upd (upd (upd (upd (upd (upd (upd (upd mi 22 x_6) 23 x_7) 24 x_8) 25 x_9) 35 x_13) 38 x_10) 39 x_11) 48 x_12) (va_up (va_up mf 46 g_14) 47 g_15) mg (by show 0 ≤ x_7.toInt; omega) (by show x_7.toInt ≤ x_6.toInt; omega) (by show x_6.toInt ≤ (mi 21).toInt; omega) (by show (mi 21).toInt ≤ 400; omega) (by show 0 ≤ x_8.toInt; omega) (by show x_8.toInt ≤ 4; omega) (by show x_8.toInt ≤ 4 * x_6.toInt - 4 * x_7.toInt; omega) (by show ((mf 26) 153).toInt = 32; omega) (by show 0 ≤ (mi 6).toInt ∧ (mi 6).toInt ≤ 10; omega) (by show 0 ≤ x_12.toInt; omega) (by show 3 * x_12.toInt ≤ x_7.toInt; omega) (by show x_8.toInt = 2; omega) (show (∀ j : Nat, j < 154 → (mf 26) j = w0 j) from lf_words) (show (x_8.toInt = 2 → x_9.toInt = 30 → x_7.toInt + 3 ≤ x_6.toInt) from hj_19_1)) (gdV q_1742 q_1744 q_71 q_162 q_1745) hdV_X12_readStep ⟨rfl, rfl⟩ ⟨(Nat.le_of_ble_eq_true rfl), (Nat.le_of_ble_eq_true rfl)⟩ ⟨(Nat.le_of_ble_eq_true rfl), (Nat.le_of_ble_eq_true rfl)⟩ 12 rfl rfl rfl rfl hl21.1 rfl (Nat.le_of_ble_eq_true rfl) dX12_readSteps_45) (fun r_36 u_35 H1 locs hp hw37 => ?_)
          obtain ⟨nspot_38, nfrom_39, ntoken_40, nvalue_41, nreadFault_42, nreadPlace_43, gstepOp_44, gstepHow_45, nsteps_46⟩ := u_35
          generalize H1 = H at hw37 ⊢
          have hw47 : WD D A s.heap (MW cI cJ M mr (upd (upd (upd (upd (upd (upd (upd (upd mi 22 nspot_38) 23 nfrom_39) 24 ntoken_40) 25 nvalue_41) 35 x_13) 38 nreadFault_42) 39 nreadPlace_43) 48 nsteps_46) (va_up (va_up mf 46 gstepOp_44) 47 gstepHow_45) mg) H locs := hw37
          obtain ⟨hp_48, hp_49, hp_50, hp_51, hp_52, hp_53, hp_54, hp_55, hp_56⟩ := hp
          have hp_48 : 0 ≤ nfrom_39.toInt := hp_48
          have hp_49 : nfrom_39.toInt ≤ nspot_38.toInt := hp_49
          have hp_50 : nspot_38.toInt ≤ (mi 21).toInt := hp_50
          have hp_51 : 0 ≤ ntoken_40.toInt := hp_51
          have hp_52 : ntoken_40.toInt ≤ 4 := hp_52
          have hp_53 : ntoken_40.toInt ≤ 4 * nspot_38.toInt - 4 * nfrom_39.toInt := hp_53
          have hp_54 : (ntoken_40.toInt = 2 → nvalue_41.toInt = 30 → nfrom_39.toInt + 3 ≤ nspot_38.toInt) := hp_54
          have hp_55 : r_36 = 0 → (∀ t : Nat, RSP g_14 g_15 (mi 6).toInt ((x_12.toInt).toNat) t → RSP gstepOp_44 gstepHow_45 (mi 6).toInt ((nsteps_46.toInt).toNat) t) := hp_55
          rcases hp_56 with rfl | ⟨rfl, ha_57, ha_58⟩
          · skip
            refine lv_goto (pc := 48) (tgt := 71) E.1 E.2.1 dX12_readSteps_48 (by decide) ?_
            refine lv_istore_n (pc := 71) (lv' := [(1, .int (-1)), (0, .ref M)]) E.1 E.2.1 dX12_readSteps_71 rfl hl21 (by decide) rfl (fun ls hl59 => ?_)
            refine lv_iload_n (pc := 72) E.1 E.2.1 dX12_readSteps_72 rfl (lv_at hl59 0 rfl) ?_
            refine lv_iconst (pc := 73) (v := (-1)) E.1 E.2.1 dX12_readSteps_73 (by decide +kernel) ?_
            refine lv_icmp_ne (pc := 74) (tgt := 79) E.1 E.2.1 dX12_readSteps_74 (by decide) (fun c_60 => absurd (meqE (a := (-1)) (b := (-1)) (by decide +kernel) (by decide +kernel) (by omega)) c_60) (fun _ => ?_)
            refine lv_iconst (pc := 77) (v := (-1)) E.1 E.2.1 dX12_readSteps_77 (by decide +kernel) ?_
            exact em_i (w1 := (fun (u : Int32 × Int32 × Int32 × Int32 × Int32 × Int32 × (Nat → Int32) × (Nat → Int32) × Int32 × Int32) => (MW cI cJ M mr (upd (upd (upd (upd (upd (upd (upd (upd mi 22 u.1) 23 u.2.1) 24 u.2.2.1) 25 u.2.2.2.1) 38 u.2.2.2.2.1) 39 u.2.2.2.2.2.1) 48 u.2.2.2.2.2.2.2.2.1) 35 u.2.2.2.2.2.2.2.2.2) (va_up (va_up mf 46 u.2.2.2.2.2.2.1) 47 u.2.2.2.2.2.2.2.1) mg))) E hr hlk (nspot_38, nfrom_39, ntoken_40, nvalue_41, nreadFault_42, nreadPlace_43, gstepOp_44, gstepHow_45, nsteps_46, x_13) hw47 ⟨(by show 0 ≤ nfrom_39.toInt; have k_0 : ((-1) : Int32).toInt = -1 := (by decide +kernel); omega), (by show nfrom_39.toInt ≤ nspot_38.toInt; have k_0 : ((-1) : Int32).toInt = -1 := (by decide +kernel); omega), (by show nspot_38.toInt ≤ (mi 21).toInt; have k_0 : ((-1) : Int32).toInt = -1 := (by decide +kernel); omega), (by show 0 ≤ ntoken_40.toInt; have k_0 : ((-1) : Int32).toInt = -1 := (by decide +kernel); omega), (by show ntoken_40.toInt ≤ 4; have k_0 : ((-1) : Int32).toInt = -1 := (by decide +kernel); omega), (by show ntoken_40.toInt ≤ 4 * nspot_38.toInt - 4 * nfrom_39.toInt; have k_0 : ((-1) : Int32).toInt = -1 := (by decide +kernel); omega), hp_54, (fun h => absurd h (by decide +kernel)), (Or.inl rfl)⟩ (Nat.le_of_ble_eq_true rfl) (Nat.le_of_ble_eq_true rfl) dX12_readSteps_78
          · skip
            have hp_55 := hp_55 rfl
            have ha_57 : x_7.toInt + 3 ≤ nfrom_39.toInt := ha_57
            have ha_58 : nsteps_46.toInt = x_12.toInt + 1 := ha_58
            refine lv_goto (pc := 48) (tgt := 71) E.1 E.2.1 dX12_readSteps_48 (by decide) ?_
            refine lv_istore_n (pc := 71) (lv' := [(1, .int 0), (0, .ref M)]) E.1 E.2.1 dX12_readSteps_71 rfl hl21 (by decide) rfl (fun ls hl61 => ?_)
            refine lv_iload_n (pc := 72) E.1 E.2.1 dX12_readSteps_72 rfl (lv_at hl61 0 rfl) ?_
            refine lv_iconst (pc := 73) (v := (-1)) E.1 E.2.1 dX12_readSteps_73 (by decide +kernel) ?_
            refine lv_icmp_ne (pc := 74) (tgt := 79) E.1 E.2.1 dX12_readSteps_74 (by decide) (fun _ => ?_) (fun c_62 => absurd c_62 (mneE (a := 0) (b := (-1)) (by decide +kernel) (by decide +kernel) (by omega)))
            refine lv_goto (pc := 79) (tgt := 5) E.1 E.2.1 dX12_readSteps_79 (by decide) ?_
            exact ih_16 nspot_38 nfrom_39 ntoken_40 nvalue_41 nreadFault_42 nreadPlace_43 nsteps_46 x_13 gstepOp_44 gstepHow_45 _ _ _ ⟨(by show 0 ≤ nfrom_39.toInt; omega), (by show nfrom_39.toInt ≤ nspot_38.toInt; omega), (by show nspot_38.toInt ≤ (mi 21).toInt; omega), (by show 0 ≤ ntoken_40.toInt; omega), (by show ntoken_40.toInt ≤ 4; omega), (by show ntoken_40.toInt ≤ 4 * nspot_38.toInt - 4 * nfrom_39.toInt; omega), (by show 0 ≤ nsteps_46.toInt; omega), (by show 3 * nsteps_46.toInt + 2 * x_13.toInt ≤ nfrom_39.toInt; omega), (by show 0 ≤ x_13.toInt; omega), (by show x_13.toInt ≤ 4; omega), (RSP_n (hp_55 _ hi_15_10) rfl rfl), (show (ntoken_40.toInt = 2 → nvalue_41.toInt = 30 → nfrom_39.toInt + 3 ≤ nspot_38.toInt) from hp_54)⟩ (by omega) hw47 (lv_sub hl61 [1] rfl)
        · skip
          have ha_29 : x_8.toInt = 2 := ha_29
          have ha_30 : x_9.toInt = 29 := ha_30
          refine lv_if_eq (pc := 41) (tgt := 51) E.1 E.2.1 dX12_readSteps_41 (by decide) (fun c_63 => absurd c_63 (mneE (a := 1) (b := 0) (by decide +kernel) (by decide +kernel) (by omega))) (fun _ => ?_)
          refine lv_aload_n (pc := 44) E.1 E.2.1 dX12_readSteps_44 rfl (lv_at hl21 0 rfl) ?_
          refine cm_i (pc := 45) hw25 (rn_M (As := []) (rest := []) E hw25 (s_readStep l D cI cJ _ M mr (upd (upd (upd (upd (upd (upd (upd (upd mi 22 x_6) 23 x_7) 24 x_8) 25 x_9) 35 x_13) 38 x_10) 39 x_11) 48 x_12) (va_up (va_up mf 46 g_14) 47 g_15) mg (by show 0 ≤ x_7.toInt; omega) (by show x_7.toInt ≤ x_6.toInt; omega) (by show x_6.toInt ≤ (mi 21).toInt; omega) (by show (mi 21).toInt ≤ 400; omega) (by show 0 ≤ x_8.toInt; omega) (by show x_8.toInt ≤ 4; omega) (by show x_8.toInt ≤ 4 * x_6.toInt - 4 * x_7.toInt; omega) (by show ((mf 26) 153).toInt = 32; omega) (by show 0 ≤ (mi 6).toInt ∧ (mi 6).toInt ≤ 10; omega) (by show 0 ≤ x_12.toInt; omega) (by show 3 * x_12.toInt ≤ x_7.toInt; omega) (by show x_8.toInt = 2; omega) (show (∀ j : Nat, j < 154 → (mf 26) j = w0 j) from lf_words) (show (x_8.toInt = 2 → x_9.toInt = 30 → x_7.toInt + 3 ≤ x_6.toInt) from hj_19_1)) (gdV q_1742 q_1744 q_71 q_162 q_1745) hdV_X12_readStep ⟨rfl, rfl⟩ ⟨(Nat.le_of_ble_eq_true rfl), (Nat.le_of_ble_eq_true rfl)⟩ ⟨(Nat.le_of_ble_eq_true rfl), (Nat.le_of_ble_eq_true rfl)⟩ 12 rfl rfl rfl rfl hl21.1 rfl (Nat.le_of_ble_eq_true rfl) dX12_readSteps_45) (fun r_65 u_64 H1 locs hp hw66 => ?_)
          obtain ⟨nspot_67, nfrom_68, ntoken_69, nvalue_70, nreadFault_71, nreadPlace_72, gstepOp_73, gstepHow_74, nsteps_75⟩ := u_64
          generalize H1 = H at hw66 ⊢
          have hw76 : WD D A s.heap (MW cI cJ M mr (upd (upd (upd (upd (upd (upd (upd (upd mi 22 nspot_67) 23 nfrom_68) 24 ntoken_69) 25 nvalue_70) 35 x_13) 38 nreadFault_71) 39 nreadPlace_72) 48 nsteps_75) (va_up (va_up mf 46 gstepOp_73) 47 gstepHow_74) mg) H locs := hw66
          obtain ⟨hp_77, hp_78, hp_79, hp_80, hp_81, hp_82, hp_83, hp_84, hp_85⟩ := hp
          have hp_77 : 0 ≤ nfrom_68.toInt := hp_77
          have hp_78 : nfrom_68.toInt ≤ nspot_67.toInt := hp_78
          have hp_79 : nspot_67.toInt ≤ (mi 21).toInt := hp_79
          have hp_80 : 0 ≤ ntoken_69.toInt := hp_80
          have hp_81 : ntoken_69.toInt ≤ 4 := hp_81
          have hp_82 : ntoken_69.toInt ≤ 4 * nspot_67.toInt - 4 * nfrom_68.toInt := hp_82
          have hp_83 : (ntoken_69.toInt = 2 → nvalue_70.toInt = 30 → nfrom_68.toInt + 3 ≤ nspot_67.toInt) := hp_83
          have hp_84 : r_65 = 0 → (∀ t : Nat, RSP g_14 g_15 (mi 6).toInt ((x_12.toInt).toNat) t → RSP gstepOp_73 gstepHow_74 (mi 6).toInt ((nsteps_75.toInt).toNat) t) := hp_84
          rcases hp_85 with rfl | ⟨rfl, ha_86, ha_87⟩
          · skip
            refine lv_goto (pc := 48) (tgt := 71) E.1 E.2.1 dX12_readSteps_48 (by decide) ?_
            refine lv_istore_n (pc := 71) (lv' := [(1, .int (-1)), (0, .ref M)]) E.1 E.2.1 dX12_readSteps_71 rfl hl21 (by decide) rfl (fun ls hl88 => ?_)
            refine lv_iload_n (pc := 72) E.1 E.2.1 dX12_readSteps_72 rfl (lv_at hl88 0 rfl) ?_
            refine lv_iconst (pc := 73) (v := (-1)) E.1 E.2.1 dX12_readSteps_73 (by decide +kernel) ?_
            refine lv_icmp_ne (pc := 74) (tgt := 79) E.1 E.2.1 dX12_readSteps_74 (by decide) (fun c_89 => absurd (meqE (a := (-1)) (b := (-1)) (by decide +kernel) (by decide +kernel) (by omega)) c_89) (fun _ => ?_)
            refine lv_iconst (pc := 77) (v := (-1)) E.1 E.2.1 dX12_readSteps_77 (by decide +kernel) ?_
            exact em_i (w1 := (fun (u : Int32 × Int32 × Int32 × Int32 × Int32 × Int32 × (Nat → Int32) × (Nat → Int32) × Int32 × Int32) => (MW cI cJ M mr (upd (upd (upd (upd (upd (upd (upd (upd mi 22 u.1) 23 u.2.1) 24 u.2.2.1) 25 u.2.2.2.1) 38 u.2.2.2.2.1) 39 u.2.2.2.2.2.1) 48 u.2.2.2.2.2.2.2.2.1) 35 u.2.2.2.2.2.2.2.2.2) (va_up (va_up mf 46 u.2.2.2.2.2.2.1) 47 u.2.2.2.2.2.2.2.1) mg))) E hr hlk (nspot_67, nfrom_68, ntoken_69, nvalue_70, nreadFault_71, nreadPlace_72, gstepOp_73, gstepHow_74, nsteps_75, x_13) hw76 ⟨(by show 0 ≤ nfrom_68.toInt; have k_0 : ((-1) : Int32).toInt = -1 := (by decide +kernel); omega), (by show nfrom_68.toInt ≤ nspot_67.toInt; have k_0 : ((-1) : Int32).toInt = -1 := (by decide +kernel); omega), (by show nspot_67.toInt ≤ (mi 21).toInt; have k_0 : ((-1) : Int32).toInt = -1 := (by decide +kernel); omega), (by show 0 ≤ ntoken_69.toInt; have k_0 : ((-1) : Int32).toInt = -1 := (by decide +kernel); omega), (by show ntoken_69.toInt ≤ 4; have k_0 : ((-1) : Int32).toInt = -1 := (by decide +kernel); omega), (by show ntoken_69.toInt ≤ 4 * nspot_67.toInt - 4 * nfrom_68.toInt; have k_0 : ((-1) : Int32).toInt = -1 := (by decide +kernel); omega), hp_83, (fun h => absurd h (by decide +kernel)), (Or.inl rfl)⟩ (Nat.le_of_ble_eq_true rfl) (Nat.le_of_ble_eq_true rfl) dX12_readSteps_78
          · skip
            have hp_84 := hp_84 rfl
            have ha_86 : x_7.toInt + 3 ≤ nfrom_68.toInt := ha_86
            have ha_87 : nsteps_75.toInt = x_12.toInt + 1 := ha_87
            refine lv_goto (pc := 48) (tgt := 71) E.1 E.2.1 dX12_readSteps_48 (by decide) ?_
            refine lv_istore_n (pc := 71) (lv' := [(1, .int 0), (0, .ref M)]) E.1 E.2.1 dX12_readSteps_71 rfl hl21 (by decide) rfl (fun ls hl90 => ?_)
            refine lv_iload_n (pc := 72) E.1 E.2.1 dX12_readSteps_72 rfl (lv_at hl90 0 rfl) ?_
            refine lv_iconst (pc := 73) (v := (-1)) E.1 E.2.1 dX12_readSteps_73 (by decide +kernel) ?_
            refine lv_icmp_ne (pc := 74) (tgt := 79) E.1 E.2.1 dX12_readSteps_74 (by decide) (fun _ => ?_) (fun c_91 => absurd c_91 (mneE (a := 0) (b := (-1)) (by decide +kernel) (by decide +kernel) (by omega)))
            refine lv_goto (pc := 79) (tgt := 5) E.1 E.2.1 dX12_readSteps_79 (by decide) ?_
            exact ih_16 nspot_67 nfrom_68 ntoken_69 nvalue_70 nreadFault_71 nreadPlace_72 nsteps_75 x_13 gstepOp_73 gstepHow_74 _ _ _ ⟨(by show 0 ≤ nfrom_68.toInt; omega), (by show nfrom_68.toInt ≤ nspot_67.toInt; omega), (by show nspot_67.toInt ≤ (mi 21).toInt; omega), (by show 0 ≤ ntoken_69.toInt; omega), (by show ntoken_69.toInt ≤ 4; omega), (by show ntoken_69.toInt ≤ 4 * nspot_67.toInt - 4 * nfrom_68.toInt; omega), (by show 0 ≤ nsteps_75.toInt; omega), (by show 3 * nsteps_75.toInt + 2 * x_13.toInt ≤ nfrom_68.toInt; omega), (by show 0 ≤ x_13.toInt; omega), (by show x_13.toInt ≤ 4; omega), (RSP_n (hp_84 _ hi_15_10) rfl rfl), (show (ntoken_69.toInt = 2 → nvalue_70.toInt = 30 → nfrom_68.toInt + 3 ≤ nspot_67.toInt) from hp_83)⟩ (by omega) hw76 (lv_sub hl90 [1] rfl)
        · skip
          have ha_31 : ¬ x_8.toInt = 2 := ha_31
          refine lv_if_eq (pc := 41) (tgt := 51) E.1 E.2.1 dX12_readSteps_41 (by decide) (fun _ => ?_) (fun c_92 => absurd (meqE (a := 0) (b := 0) (by decide +kernel) (by decide +kernel) (by omega)) c_92)
          refine lv_aload_n (pc := 51) E.1 E.2.1 dX12_readSteps_51 rfl (lv_at hl21 0 rfl) ?_
          refine lv_bipush (pc := 52) (v := 30) E.1 E.2.1 dX12_readSteps_52 (by decide +kernel) ?_
          refine cm_i (pc := 54) hw25 (rn_M (As := [.int 30]) (rest := []) E hw25 (s_isWord3 l D cI cJ _ M mr (upd (upd (upd (upd (upd (upd (upd (upd mi 22 x_6) 23 x_7) 24 x_8) 25 x_9) 35 x_13) 38 x_10) 39 x_11) 48 x_12) (va_up (va_up mf 46 g_14) 47 g_15) mg 30) (gdV q_1694 q_1696 q_59 q_162 q_1697) hdV_X12_isWord ⟨rfl, rfl⟩ ⟨(Nat.le_of_ble_eq_true rfl), (Nat.le_of_ble_eq_true rfl)⟩ ⟨(Nat.le_of_ble_eq_true rfl), (Nat.le_of_ble_eq_true rfl)⟩ 12 rfl rfl rfl rfl hl21.1 rfl (Nat.le_of_ble_eq_true rfl) dX12_readSteps_54) (fun r_94 u_93 H1 locs hp hw95 => ?_)
          generalize H1 = H at hw95 ⊢
          have hw96 : WD D A s.heap (MW cI cJ M mr (upd (upd (upd (upd (upd (upd (upd (upd mi 22 x_6) 23 x_7) 24 x_8) 25 x_9) 35 x_13) 38 x_10) 39 x_11) 48 x_12) (va_up (va_up mf 46 g_14) 47 g_15) mg) H locs := hw95
          have hp_97 := hp
          rcases hp_97 with ⟨rfl, ha_98, ha_99⟩ | ⟨rfl, ha_100⟩ | ⟨rfl, ha_101⟩
          · skip
            have ha_98 : x_8.toInt = 2 := ha_98
            have ha_99 : x_9.toInt = (30 : Int32).toInt := ha_99
            rw [show (30 : Int32).toInt = 30 from by decide +kernel] at ha_99
            exfalso; omega
          · skip
            have ha_100 : ¬ x_8.toInt = 2 := ha_100
            refine lv_if_eq (pc := 57) (tgt := 67) E.1 E.2.1 dX12_readSteps_57 (by decide) (fun _ => ?_) (fun c_102 => absurd (meqE (a := 0) (b := 0) (by decide +kernel) (by decide +kernel) (by omega)) c_102)
            have hD : 1 ≤ x_13.toInt ∧ 1 ≤ x_8.toInt := by have q := hj_19_0; omega
            refine lv_aload_n (pc := 67) E.1 E.2.1 dX12_readSteps_67 rfl (lv_at hl21 0 rfl) ?_
            refine cm_i (pc := 68) hw96 (rn_M (As := []) (rest := []) E hw96 (s_readAgainEnd l D cI cJ _ M mr (upd (upd (upd (upd (upd (upd (upd (upd mi 22 x_6) 23 x_7) 24 x_8) 25 x_9) 35 x_13) 38 x_10) 39 x_11) 48 x_12) (va_up (va_up mf 46 g_14) 47 g_15) mg (by show 0 ≤ x_7.toInt; omega) (by show x_7.toInt ≤ x_6.toInt; omega) (by show x_6.toInt ≤ (mi 21).toInt; omega) (by show (mi 21).toInt ≤ 400; omega) (by show 0 ≤ x_8.toInt; omega) (by show x_8.toInt ≤ 4; omega) (by show x_8.toInt ≤ 4 * x_6.toInt - 4 * x_7.toInt; omega) (by show ((mf 26) 153).toInt = 32; omega) (by show 0 ≤ (mi 6).toInt ∧ (mi 6).toInt ≤ 10; omega) (by show 0 ≤ x_12.toInt; omega) (by show 3 * x_12.toInt ≤ x_7.toInt; omega) (by show 1 ≤ x_8.toInt; omega) (by show 1 ≤ x_13.toInt ∧ x_13.toInt ≤ 4; omega) (show (∀ j : Nat, j < 154 → (mf 26) j = w0 j) from lf_words) (show (x_8.toInt = 2 → x_9.toInt = 30 → x_7.toInt + 3 ≤ x_6.toInt) from hj_19_1)) (gdV q_1754 q_1756 q_74 q_162 q_1757) hdV_X12_readAgainEnd ⟨rfl, rfl⟩ ⟨(Nat.le_of_ble_eq_true rfl), (Nat.le_of_ble_eq_true rfl)⟩ ⟨(Nat.le_of_ble_eq_true rfl), (Nat.le_of_ble_eq_true rfl)⟩ 12 rfl rfl rfl rfl hl21.1 rfl (Nat.le_of_ble_eq_true rfl) dX12_readSteps_68) (fun r_104 u_103 H1 locs hp hw105 => ?_)
            obtain ⟨nspot_106, nfrom_107, ntoken_108, nvalue_109, nreadFault_110, nreadPlace_111, gstepOp_112, gstepHow_113, nsteps_114, nopen_115⟩ := u_103
            generalize H1 = H at hw105 ⊢
            have hw116 : WD D A s.heap (MW cI cJ M mr (upd (upd (upd (upd (upd (upd (upd (upd mi 22 nspot_106) 23 nfrom_107) 24 ntoken_108) 25 nvalue_109) 35 nopen_115) 38 nreadFault_110) 39 nreadPlace_111) 48 nsteps_114) (va_up (va_up mf 46 gstepOp_112) 47 gstepHow_113) mg) H locs := hw105
            obtain ⟨hp_117, hp_118, hp_119, hp_120, hp_121, hp_122, hp_123, hp_124, hp_125⟩ := hp
            have hp_117 : 0 ≤ nfrom_107.toInt := hp_117
            have hp_118 : nfrom_107.toInt ≤ nspot_106.toInt := hp_118
            have hp_119 : nspot_106.toInt ≤ (mi 21).toInt := hp_119
            have hp_120 : 0 ≤ ntoken_108.toInt := hp_120
            have hp_121 : ntoken_108.toInt ≤ 4 := hp_121
            have hp_122 : ntoken_108.toInt ≤ 4 * nspot_106.toInt - 4 * nfrom_107.toInt := hp_122
            have hp_123 : (ntoken_108.toInt = 2 → nvalue_109.toInt = 30 → nfrom_107.toInt + 3 ≤ nspot_106.toInt) := hp_123
            have hp_124 : r_104 = 0 → (∀ t : Nat, RSP g_14 g_15 (mi 6).toInt ((x_12.toInt).toNat) (t + 1) → RSP gstepOp_112 gstepHow_113 (mi 6).toInt ((nsteps_114.toInt).toNat) t) := hp_124
            rcases hp_125 with ⟨rfl, ha_126, ha_127, ha_128⟩
            · skip
              have hp_124 := hp_124 rfl
              have ha_126 : x_7.toInt + 1 ≤ nfrom_107.toInt := ha_126
              have ha_127 : nsteps_114.toInt = x_12.toInt + 1 := ha_127
              have ha_128 : nopen_115.toInt = x_13.toInt - 1 := ha_128
              refine lv_istore_n (pc := 71) (lv' := [(1, .int 0), (0, .ref M)]) E.1 E.2.1 dX12_readSteps_71 rfl hl21 (by decide) rfl (fun ls hl129 => ?_)
              refine lv_iload_n (pc := 72) E.1 E.2.1 dX12_readSteps_72 rfl (lv_at hl129 0 rfl) ?_
              refine lv_iconst (pc := 73) (v := (-1)) E.1 E.2.1 dX12_readSteps_73 (by decide +kernel) ?_
              refine lv_icmp_ne (pc := 74) (tgt := 79) E.1 E.2.1 dX12_readSteps_74 (by decide) (fun _ => ?_) (fun c_130 => absurd c_130 (mneE (a := 0) (b := (-1)) (by decide +kernel) (by decide +kernel) (by omega)))
              refine lv_goto (pc := 79) (tgt := 5) E.1 E.2.1 dX12_readSteps_79 (by decide) ?_
              exact ih_16 nspot_106 nfrom_107 ntoken_108 nvalue_109 nreadFault_110 nreadPlace_111 nsteps_114 nopen_115 gstepOp_112 gstepHow_113 _ _ _ ⟨(by show 0 ≤ nfrom_107.toInt; omega), (by show nfrom_107.toInt ≤ nspot_106.toInt; omega), (by show nspot_106.toInt ≤ (mi 21).toInt; omega), (by show 0 ≤ ntoken_108.toInt; omega), (by show ntoken_108.toInt ≤ 4; omega), (by show ntoken_108.toInt ≤ 4 * nspot_106.toInt - 4 * nfrom_107.toInt; omega), (by show 0 ≤ nsteps_114.toInt; omega), (by show 3 * nsteps_114.toInt + 2 * nopen_115.toInt ≤ nfrom_107.toInt; omega), (by show 0 ≤ nopen_115.toInt; omega), (by show nopen_115.toInt ≤ 4; omega), (hp_124 _ (RSP_n hi_15_10 rfl (by omega))), (show (ntoken_108.toInt = 2 → nvalue_109.toInt = 30 → nfrom_107.toInt + 3 ≤ nspot_106.toInt) from hp_123)⟩ (by omega) hw116 (lv_sub hl129 [1] rfl)
          · skip
            have ha_101 : ¬ x_9.toInt = (30 : Int32).toInt := ha_101
            rw [show (30 : Int32).toInt = 30 from by decide +kernel] at ha_101
            refine lv_if_eq (pc := 57) (tgt := 67) E.1 E.2.1 dX12_readSteps_57 (by decide) (fun _ => ?_) (fun c_131 => absurd (meqE (a := 0) (b := 0) (by decide +kernel) (by decide +kernel) (by omega)) c_131)
            have hD : 1 ≤ x_13.toInt ∧ 1 ≤ x_8.toInt := by have q := hj_19_0; omega
            refine lv_aload_n (pc := 67) E.1 E.2.1 dX12_readSteps_67 rfl (lv_at hl21 0 rfl) ?_
            refine cm_i (pc := 68) hw96 (rn_M (As := []) (rest := []) E hw96 (s_readAgainEnd l D cI cJ _ M mr (upd (upd (upd (upd (upd (upd (upd (upd mi 22 x_6) 23 x_7) 24 x_8) 25 x_9) 35 x_13) 38 x_10) 39 x_11) 48 x_12) (va_up (va_up mf 46 g_14) 47 g_15) mg (by show 0 ≤ x_7.toInt; omega) (by show x_7.toInt ≤ x_6.toInt; omega) (by show x_6.toInt ≤ (mi 21).toInt; omega) (by show (mi 21).toInt ≤ 400; omega) (by show 0 ≤ x_8.toInt; omega) (by show x_8.toInt ≤ 4; omega) (by show x_8.toInt ≤ 4 * x_6.toInt - 4 * x_7.toInt; omega) (by show ((mf 26) 153).toInt = 32; omega) (by show 0 ≤ (mi 6).toInt ∧ (mi 6).toInt ≤ 10; omega) (by show 0 ≤ x_12.toInt; omega) (by show 3 * x_12.toInt ≤ x_7.toInt; omega) (by show 1 ≤ x_8.toInt; omega) (by show 1 ≤ x_13.toInt ∧ x_13.toInt ≤ 4; omega) (show (∀ j : Nat, j < 154 → (mf 26) j = w0 j) from lf_words) (show (x_8.toInt = 2 → x_9.toInt = 30 → x_7.toInt + 3 ≤ x_6.toInt) from hj_19_1)) (gdV q_1754 q_1756 q_74 q_162 q_1757) hdV_X12_readAgainEnd ⟨rfl, rfl⟩ ⟨(Nat.le_of_ble_eq_true rfl), (Nat.le_of_ble_eq_true rfl)⟩ ⟨(Nat.le_of_ble_eq_true rfl), (Nat.le_of_ble_eq_true rfl)⟩ 12 rfl rfl rfl rfl hl21.1 rfl (Nat.le_of_ble_eq_true rfl) dX12_readSteps_68) (fun r_133 u_132 H1 locs hp hw134 => ?_)
            obtain ⟨nspot_135, nfrom_136, ntoken_137, nvalue_138, nreadFault_139, nreadPlace_140, gstepOp_141, gstepHow_142, nsteps_143, nopen_144⟩ := u_132
            generalize H1 = H at hw134 ⊢
            have hw145 : WD D A s.heap (MW cI cJ M mr (upd (upd (upd (upd (upd (upd (upd (upd mi 22 nspot_135) 23 nfrom_136) 24 ntoken_137) 25 nvalue_138) 35 nopen_144) 38 nreadFault_139) 39 nreadPlace_140) 48 nsteps_143) (va_up (va_up mf 46 gstepOp_141) 47 gstepHow_142) mg) H locs := hw134
            obtain ⟨hp_146, hp_147, hp_148, hp_149, hp_150, hp_151, hp_152, hp_153, hp_154⟩ := hp
            have hp_146 : 0 ≤ nfrom_136.toInt := hp_146
            have hp_147 : nfrom_136.toInt ≤ nspot_135.toInt := hp_147
            have hp_148 : nspot_135.toInt ≤ (mi 21).toInt := hp_148
            have hp_149 : 0 ≤ ntoken_137.toInt := hp_149
            have hp_150 : ntoken_137.toInt ≤ 4 := hp_150
            have hp_151 : ntoken_137.toInt ≤ 4 * nspot_135.toInt - 4 * nfrom_136.toInt := hp_151
            have hp_152 : (ntoken_137.toInt = 2 → nvalue_138.toInt = 30 → nfrom_136.toInt + 3 ≤ nspot_135.toInt) := hp_152
            have hp_153 : r_133 = 0 → (∀ t : Nat, RSP g_14 g_15 (mi 6).toInt ((x_12.toInt).toNat) (t + 1) → RSP gstepOp_141 gstepHow_142 (mi 6).toInt ((nsteps_143.toInt).toNat) t) := hp_153
            rcases hp_154 with ⟨rfl, ha_155, ha_156, ha_157⟩
            · skip
              have hp_153 := hp_153 rfl
              have ha_155 : x_7.toInt + 1 ≤ nfrom_136.toInt := ha_155
              have ha_156 : nsteps_143.toInt = x_12.toInt + 1 := ha_156
              have ha_157 : nopen_144.toInt = x_13.toInt - 1 := ha_157
              refine lv_istore_n (pc := 71) (lv' := [(1, .int 0), (0, .ref M)]) E.1 E.2.1 dX12_readSteps_71 rfl hl21 (by decide) rfl (fun ls hl158 => ?_)
              refine lv_iload_n (pc := 72) E.1 E.2.1 dX12_readSteps_72 rfl (lv_at hl158 0 rfl) ?_
              refine lv_iconst (pc := 73) (v := (-1)) E.1 E.2.1 dX12_readSteps_73 (by decide +kernel) ?_
              refine lv_icmp_ne (pc := 74) (tgt := 79) E.1 E.2.1 dX12_readSteps_74 (by decide) (fun _ => ?_) (fun c_159 => absurd c_159 (mneE (a := 0) (b := (-1)) (by decide +kernel) (by decide +kernel) (by omega)))
              refine lv_goto (pc := 79) (tgt := 5) E.1 E.2.1 dX12_readSteps_79 (by decide) ?_
              exact ih_16 nspot_135 nfrom_136 ntoken_137 nvalue_138 nreadFault_139 nreadPlace_140 nsteps_143 nopen_144 gstepOp_141 gstepHow_142 _ _ _ ⟨(by show 0 ≤ nfrom_136.toInt; omega), (by show nfrom_136.toInt ≤ nspot_135.toInt; omega), (by show nspot_135.toInt ≤ (mi 21).toInt; omega), (by show 0 ≤ ntoken_137.toInt; omega), (by show ntoken_137.toInt ≤ 4; omega), (by show ntoken_137.toInt ≤ 4 * nspot_135.toInt - 4 * nfrom_136.toInt; omega), (by show 0 ≤ nsteps_143.toInt; omega), (by show 3 * nsteps_143.toInt + 2 * nopen_144.toInt ≤ nfrom_136.toInt; omega), (by show 0 ≤ nopen_144.toInt; omega), (by show nopen_144.toInt ≤ 4; omega), (hp_153 _ (RSP_n hi_15_10 rfl (by omega))), (show (ntoken_137.toInt = 2 → nvalue_138.toInt = 30 → nfrom_136.toInt + 3 ≤ nspot_135.toInt) from hp_152)⟩ (by omega) hw145 (lv_sub hl158 [1] rfl)
        · skip
          have ha_32 : ¬ x_9.toInt = 28 := ha_32
          have ha_33 : ¬ x_9.toInt = 29 := ha_33
          refine lv_if_eq (pc := 41) (tgt := 51) E.1 E.2.1 dX12_readSteps_41 (by decide) (fun _ => ?_) (fun c_160 => absurd (meqE (a := 0) (b := 0) (by decide +kernel) (by decide +kernel) (by omega)) c_160)
          refine lv_aload_n (pc := 51) E.1 E.2.1 dX12_readSteps_51 rfl (lv_at hl21 0 rfl) ?_
          refine lv_bipush (pc := 52) (v := 30) E.1 E.2.1 dX12_readSteps_52 (by decide +kernel) ?_
          refine cm_i (pc := 54) hw25 (rn_M (As := [.int 30]) (rest := []) E hw25 (s_isWord3 l D cI cJ _ M mr (upd (upd (upd (upd (upd (upd (upd (upd mi 22 x_6) 23 x_7) 24 x_8) 25 x_9) 35 x_13) 38 x_10) 39 x_11) 48 x_12) (va_up (va_up mf 46 g_14) 47 g_15) mg 30) (gdV q_1694 q_1696 q_59 q_162 q_1697) hdV_X12_isWord ⟨rfl, rfl⟩ ⟨(Nat.le_of_ble_eq_true rfl), (Nat.le_of_ble_eq_true rfl)⟩ ⟨(Nat.le_of_ble_eq_true rfl), (Nat.le_of_ble_eq_true rfl)⟩ 12 rfl rfl rfl rfl hl21.1 rfl (Nat.le_of_ble_eq_true rfl) dX12_readSteps_54) (fun r_162 u_161 H1 locs hp hw163 => ?_)
          generalize H1 = H at hw163 ⊢
          have hw164 : WD D A s.heap (MW cI cJ M mr (upd (upd (upd (upd (upd (upd (upd (upd mi 22 x_6) 23 x_7) 24 x_8) 25 x_9) 35 x_13) 38 x_10) 39 x_11) 48 x_12) (va_up (va_up mf 46 g_14) 47 g_15) mg) H locs := hw163
          have hp_165 := hp
          rcases hp_165 with ⟨rfl, ha_166, ha_167⟩ | ⟨rfl, ha_168⟩ | ⟨rfl, ha_169⟩
          · skip
            have ha_166 : x_8.toInt = 2 := ha_166
            have ha_167 : x_9.toInt = (30 : Int32).toInt := ha_167
            rw [show (30 : Int32).toInt = 30 from by decide +kernel] at ha_167
            refine lv_if_eq (pc := 57) (tgt := 67) E.1 E.2.1 dX12_readSteps_57 (by decide) (fun c_170 => absurd c_170 (mneE (a := 1) (b := 0) (by decide +kernel) (by decide +kernel) (by omega))) (fun _ => ?_)
            refine lv_aload_n (pc := 60) E.1 E.2.1 dX12_readSteps_60 rfl (lv_at hl21 0 rfl) ?_
            refine cm_i (pc := 61) hw164 (rn_M (As := []) (rest := []) E hw164 (s_readAgain l D cI cJ _ M mr (upd (upd (upd (upd (upd (upd (upd (upd mi 22 x_6) 23 x_7) 24 x_8) 25 x_9) 35 x_13) 38 x_10) 39 x_11) 48 x_12) (va_up (va_up mf 46 g_14) 47 g_15) mg (by show 0 ≤ x_7.toInt; omega) (by show x_7.toInt ≤ x_6.toInt; omega) (by show x_6.toInt ≤ (mi 21).toInt; omega) (by show (mi 21).toInt ≤ 400; omega) (by show 0 ≤ x_8.toInt; omega) (by show x_8.toInt ≤ 4; omega) (by show x_8.toInt ≤ 4 * x_6.toInt - 4 * x_7.toInt; omega) (by show ((mf 26) 153).toInt = 32; omega) (by show 0 ≤ (mi 6).toInt ∧ (mi 6).toInt ≤ 10; omega) (by show 0 ≤ x_12.toInt; omega) (by show 3 * x_12.toInt ≤ x_7.toInt; omega) (by show x_8.toInt = 2; omega) (by show x_9.toInt = 30; omega) (by show 0 ≤ x_13.toInt ∧ x_13.toInt ≤ 4; omega) (show (∀ j : Nat, j < 154 → (mf 26) j = w0 j) from lf_words) (show (x_8.toInt = 2 → x_9.toInt = 30 → x_7.toInt + 3 ≤ x_6.toInt) from hj_19_1)) (gdV q_1750 q_1752 q_73 q_162 q_1753) hdV_X12_readAgain ⟨rfl, rfl⟩ ⟨(Nat.le_of_ble_eq_true rfl), (Nat.le_of_ble_eq_true rfl)⟩ ⟨(Nat.le_of_ble_eq_true rfl), (Nat.le_of_ble_eq_true rfl)⟩ 12 rfl rfl rfl rfl hl21.1 rfl (Nat.le_of_ble_eq_true rfl) dX12_readSteps_61) (fun r_172 u_171 H1 locs hp hw173 => ?_)
            obtain ⟨nspot_174, nfrom_175, ntoken_176, nvalue_177, nreadFault_178, nreadPlace_179, gstepOp_180, gstepHow_181, nsteps_182, nopen_183⟩ := u_171
            generalize H1 = H at hw173 ⊢
            have hw184 : WD D A s.heap (MW cI cJ M mr (upd (upd (upd (upd (upd (upd (upd (upd mi 22 nspot_174) 23 nfrom_175) 24 ntoken_176) 25 nvalue_177) 35 nopen_183) 38 nreadFault_178) 39 nreadPlace_179) 48 nsteps_182) (va_up (va_up mf 46 gstepOp_180) 47 gstepHow_181) mg) H locs := hw173
            obtain ⟨hp_185, hp_186, hp_187, hp_188, hp_189, hp_190, hp_191, hp_192, hp_193, hp_194, hp_195⟩ := hp
            have hp_185 : 0 ≤ nfrom_175.toInt := hp_185
            have hp_186 : nfrom_175.toInt ≤ nspot_174.toInt := hp_186
            have hp_187 : nspot_174.toInt ≤ (mi 21).toInt := hp_187
            have hp_188 : 0 ≤ ntoken_176.toInt := hp_188
            have hp_189 : ntoken_176.toInt ≤ 4 := hp_189
            have hp_190 : ntoken_176.toInt ≤ 4 * nspot_174.toInt - 4 * nfrom_175.toInt := hp_190
            have hp_191 : x_13.toInt ≤ nopen_183.toInt := hp_191
            have hp_192 : nopen_183.toInt ≤ 4 := hp_192
            have hp_193 : (ntoken_176.toInt = 2 → nvalue_177.toInt = 30 → nfrom_175.toInt + 3 ≤ nspot_174.toInt) := hp_193
            have hp_194 : r_172 = 0 → (∀ t : Nat, t ≤ 3 → RSP g_14 g_15 (mi 6).toInt ((x_12.toInt).toNat) t → RSP gstepOp_180 gstepHow_181 (mi 6).toInt ((nsteps_182.toInt).toNat) (t + 1)) := hp_194
            rcases hp_195 with rfl | ⟨rfl, ha_196, ha_197, ha_198, ha_199⟩
            · skip
              refine lv_goto (pc := 64) (tgt := 71) E.1 E.2.1 dX12_readSteps_64 (by decide) ?_
              refine lv_istore_n (pc := 71) (lv' := [(1, .int (-1)), (0, .ref M)]) E.1 E.2.1 dX12_readSteps_71 rfl hl21 (by decide) rfl (fun ls hl200 => ?_)
              refine lv_iload_n (pc := 72) E.1 E.2.1 dX12_readSteps_72 rfl (lv_at hl200 0 rfl) ?_
              refine lv_iconst (pc := 73) (v := (-1)) E.1 E.2.1 dX12_readSteps_73 (by decide +kernel) ?_
              refine lv_icmp_ne (pc := 74) (tgt := 79) E.1 E.2.1 dX12_readSteps_74 (by decide) (fun c_201 => absurd (meqE (a := (-1)) (b := (-1)) (by decide +kernel) (by decide +kernel) (by omega)) c_201) (fun _ => ?_)
              refine lv_iconst (pc := 77) (v := (-1)) E.1 E.2.1 dX12_readSteps_77 (by decide +kernel) ?_
              exact em_i (w1 := (fun (u : Int32 × Int32 × Int32 × Int32 × Int32 × Int32 × (Nat → Int32) × (Nat → Int32) × Int32 × Int32) => (MW cI cJ M mr (upd (upd (upd (upd (upd (upd (upd (upd mi 22 u.1) 23 u.2.1) 24 u.2.2.1) 25 u.2.2.2.1) 38 u.2.2.2.2.1) 39 u.2.2.2.2.2.1) 48 u.2.2.2.2.2.2.2.2.1) 35 u.2.2.2.2.2.2.2.2.2) (va_up (va_up mf 46 u.2.2.2.2.2.2.1) 47 u.2.2.2.2.2.2.2.1) mg))) E hr hlk (nspot_174, nfrom_175, ntoken_176, nvalue_177, nreadFault_178, nreadPlace_179, gstepOp_180, gstepHow_181, nsteps_182, nopen_183) hw184 ⟨(by show 0 ≤ nfrom_175.toInt; have k_0 : ((-1) : Int32).toInt = -1 := (by decide +kernel); omega), (by show nfrom_175.toInt ≤ nspot_174.toInt; have k_0 : ((-1) : Int32).toInt = -1 := (by decide +kernel); omega), (by show nspot_174.toInt ≤ (mi 21).toInt; have k_0 : ((-1) : Int32).toInt = -1 := (by decide +kernel); omega), (by show 0 ≤ ntoken_176.toInt; have k_0 : ((-1) : Int32).toInt = -1 := (by decide +kernel); omega), (by show ntoken_176.toInt ≤ 4; have k_0 : ((-1) : Int32).toInt = -1 := (by decide +kernel); omega), (by show ntoken_176.toInt ≤ 4 * nspot_174.toInt - 4 * nfrom_175.toInt; have k_0 : ((-1) : Int32).toInt = -1 := (by decide +kernel); omega), hp_193, (fun h => absurd h (by decide +kernel)), (Or.inl rfl)⟩ (Nat.le_of_ble_eq_true rfl) (Nat.le_of_ble_eq_true rfl) dX12_readSteps_78
            · skip
              have hp_194 := hp_194 rfl
              have ha_196 : x_7.toInt + 5 ≤ nfrom_175.toInt := ha_196
              have ha_197 : nsteps_182.toInt = x_12.toInt + 1 := ha_197
              have ha_198 : nopen_183.toInt = x_13.toInt + 1 := ha_198
              have ha_199 : nopen_183.toInt ≤ 4 := ha_199
              refine lv_goto (pc := 64) (tgt := 71) E.1 E.2.1 dX12_readSteps_64 (by decide) ?_
              refine lv_istore_n (pc := 71) (lv' := [(1, .int 0), (0, .ref M)]) E.1 E.2.1 dX12_readSteps_71 rfl hl21 (by decide) rfl (fun ls hl202 => ?_)
              refine lv_iload_n (pc := 72) E.1 E.2.1 dX12_readSteps_72 rfl (lv_at hl202 0 rfl) ?_
              refine lv_iconst (pc := 73) (v := (-1)) E.1 E.2.1 dX12_readSteps_73 (by decide +kernel) ?_
              refine lv_icmp_ne (pc := 74) (tgt := 79) E.1 E.2.1 dX12_readSteps_74 (by decide) (fun _ => ?_) (fun c_203 => absurd c_203 (mneE (a := 0) (b := (-1)) (by decide +kernel) (by decide +kernel) (by omega)))
              refine lv_goto (pc := 79) (tgt := 5) E.1 E.2.1 dX12_readSteps_79 (by decide) ?_
              exact ih_16 nspot_174 nfrom_175 ntoken_176 nvalue_177 nreadFault_178 nreadPlace_179 nsteps_182 nopen_183 gstepOp_180 gstepHow_181 _ _ _ ⟨(by show 0 ≤ nfrom_175.toInt; omega), (by show nfrom_175.toInt ≤ nspot_174.toInt; omega), (by show nspot_174.toInt ≤ (mi 21).toInt; omega), (by show 0 ≤ ntoken_176.toInt; omega), (by show ntoken_176.toInt ≤ 4; omega), (by show ntoken_176.toInt ≤ 4 * nspot_174.toInt - 4 * nfrom_175.toInt; omega), (by show 0 ≤ nsteps_182.toInt; omega), (by show 3 * nsteps_182.toInt + 2 * nopen_183.toInt ≤ nfrom_175.toInt; omega), (by show 0 ≤ nopen_183.toInt; omega), (by show nopen_183.toInt ≤ 4; omega), (RSP_n (hp_194 _ (by omega) hi_15_10) rfl (by omega)), (show (ntoken_176.toInt = 2 → nvalue_177.toInt = 30 → nfrom_175.toInt + 3 ≤ nspot_174.toInt) from hp_193)⟩ (by omega) hw184 (lv_sub hl202 [1] rfl)
          · skip
            have ha_168 : ¬ x_8.toInt = 2 := ha_168
            refine lv_if_eq (pc := 57) (tgt := 67) E.1 E.2.1 dX12_readSteps_57 (by decide) (fun _ => ?_) (fun c_204 => absurd (meqE (a := 0) (b := 0) (by decide +kernel) (by decide +kernel) (by omega)) c_204)
            have hD : 1 ≤ x_13.toInt ∧ 1 ≤ x_8.toInt := by have q := hj_19_0; omega
            refine lv_aload_n (pc := 67) E.1 E.2.1 dX12_readSteps_67 rfl (lv_at hl21 0 rfl) ?_
            refine cm_i (pc := 68) hw164 (rn_M (As := []) (rest := []) E hw164 (s_readAgainEnd l D cI cJ _ M mr (upd (upd (upd (upd (upd (upd (upd (upd mi 22 x_6) 23 x_7) 24 x_8) 25 x_9) 35 x_13) 38 x_10) 39 x_11) 48 x_12) (va_up (va_up mf 46 g_14) 47 g_15) mg (by show 0 ≤ x_7.toInt; omega) (by show x_7.toInt ≤ x_6.toInt; omega) (by show x_6.toInt ≤ (mi 21).toInt; omega) (by show (mi 21).toInt ≤ 400; omega) (by show 0 ≤ x_8.toInt; omega) (by show x_8.toInt ≤ 4; omega) (by show x_8.toInt ≤ 4 * x_6.toInt - 4 * x_7.toInt; omega) (by show ((mf 26) 153).toInt = 32; omega) (by show 0 ≤ (mi 6).toInt ∧ (mi 6).toInt ≤ 10; omega) (by show 0 ≤ x_12.toInt; omega) (by show 3 * x_12.toInt ≤ x_7.toInt; omega) (by show 1 ≤ x_8.toInt; omega) (by show 1 ≤ x_13.toInt ∧ x_13.toInt ≤ 4; omega) (show (∀ j : Nat, j < 154 → (mf 26) j = w0 j) from lf_words) (show (x_8.toInt = 2 → x_9.toInt = 30 → x_7.toInt + 3 ≤ x_6.toInt) from hj_19_1)) (gdV q_1754 q_1756 q_74 q_162 q_1757) hdV_X12_readAgainEnd ⟨rfl, rfl⟩ ⟨(Nat.le_of_ble_eq_true rfl), (Nat.le_of_ble_eq_true rfl)⟩ ⟨(Nat.le_of_ble_eq_true rfl), (Nat.le_of_ble_eq_true rfl)⟩ 12 rfl rfl rfl rfl hl21.1 rfl (Nat.le_of_ble_eq_true rfl) dX12_readSteps_68) (fun r_206 u_205 H1 locs hp hw207 => ?_)
            obtain ⟨nspot_208, nfrom_209, ntoken_210, nvalue_211, nreadFault_212, nreadPlace_213, gstepOp_214, gstepHow_215, nsteps_216, nopen_217⟩ := u_205
            generalize H1 = H at hw207 ⊢
            have hw218 : WD D A s.heap (MW cI cJ M mr (upd (upd (upd (upd (upd (upd (upd (upd mi 22 nspot_208) 23 nfrom_209) 24 ntoken_210) 25 nvalue_211) 35 nopen_217) 38 nreadFault_212) 39 nreadPlace_213) 48 nsteps_216) (va_up (va_up mf 46 gstepOp_214) 47 gstepHow_215) mg) H locs := hw207
            obtain ⟨hp_219, hp_220, hp_221, hp_222, hp_223, hp_224, hp_225, hp_226, hp_227⟩ := hp
            have hp_219 : 0 ≤ nfrom_209.toInt := hp_219
            have hp_220 : nfrom_209.toInt ≤ nspot_208.toInt := hp_220
            have hp_221 : nspot_208.toInt ≤ (mi 21).toInt := hp_221
            have hp_222 : 0 ≤ ntoken_210.toInt := hp_222
            have hp_223 : ntoken_210.toInt ≤ 4 := hp_223
            have hp_224 : ntoken_210.toInt ≤ 4 * nspot_208.toInt - 4 * nfrom_209.toInt := hp_224
            have hp_225 : (ntoken_210.toInt = 2 → nvalue_211.toInt = 30 → nfrom_209.toInt + 3 ≤ nspot_208.toInt) := hp_225
            have hp_226 : r_206 = 0 → (∀ t : Nat, RSP g_14 g_15 (mi 6).toInt ((x_12.toInt).toNat) (t + 1) → RSP gstepOp_214 gstepHow_215 (mi 6).toInt ((nsteps_216.toInt).toNat) t) := hp_226
            rcases hp_227 with ⟨rfl, ha_228, ha_229, ha_230⟩
            · skip
              have hp_226 := hp_226 rfl
              have ha_228 : x_7.toInt + 1 ≤ nfrom_209.toInt := ha_228
              have ha_229 : nsteps_216.toInt = x_12.toInt + 1 := ha_229
              have ha_230 : nopen_217.toInt = x_13.toInt - 1 := ha_230
              refine lv_istore_n (pc := 71) (lv' := [(1, .int 0), (0, .ref M)]) E.1 E.2.1 dX12_readSteps_71 rfl hl21 (by decide) rfl (fun ls hl231 => ?_)
              refine lv_iload_n (pc := 72) E.1 E.2.1 dX12_readSteps_72 rfl (lv_at hl231 0 rfl) ?_
              refine lv_iconst (pc := 73) (v := (-1)) E.1 E.2.1 dX12_readSteps_73 (by decide +kernel) ?_
              refine lv_icmp_ne (pc := 74) (tgt := 79) E.1 E.2.1 dX12_readSteps_74 (by decide) (fun _ => ?_) (fun c_232 => absurd c_232 (mneE (a := 0) (b := (-1)) (by decide +kernel) (by decide +kernel) (by omega)))
              refine lv_goto (pc := 79) (tgt := 5) E.1 E.2.1 dX12_readSteps_79 (by decide) ?_
              exact ih_16 nspot_208 nfrom_209 ntoken_210 nvalue_211 nreadFault_212 nreadPlace_213 nsteps_216 nopen_217 gstepOp_214 gstepHow_215 _ _ _ ⟨(by show 0 ≤ nfrom_209.toInt; omega), (by show nfrom_209.toInt ≤ nspot_208.toInt; omega), (by show nspot_208.toInt ≤ (mi 21).toInt; omega), (by show 0 ≤ ntoken_210.toInt; omega), (by show ntoken_210.toInt ≤ 4; omega), (by show ntoken_210.toInt ≤ 4 * nspot_208.toInt - 4 * nfrom_209.toInt; omega), (by show 0 ≤ nsteps_216.toInt; omega), (by show 3 * nsteps_216.toInt + 2 * nopen_217.toInt ≤ nfrom_209.toInt; omega), (by show 0 ≤ nopen_217.toInt; omega), (by show nopen_217.toInt ≤ 4; omega), (hp_226 _ (RSP_n hi_15_10 rfl (by omega))), (show (ntoken_210.toInt = 2 → nvalue_211.toInt = 30 → nfrom_209.toInt + 3 ≤ nspot_208.toInt) from hp_225)⟩ (by omega) hw218 (lv_sub hl231 [1] rfl)
          · skip
            have ha_169 : ¬ x_9.toInt = (30 : Int32).toInt := ha_169
            rw [show (30 : Int32).toInt = 30 from by decide +kernel] at ha_169
            refine lv_if_eq (pc := 57) (tgt := 67) E.1 E.2.1 dX12_readSteps_57 (by decide) (fun _ => ?_) (fun c_233 => absurd (meqE (a := 0) (b := 0) (by decide +kernel) (by decide +kernel) (by omega)) c_233)
            have hD : 1 ≤ x_13.toInt ∧ 1 ≤ x_8.toInt := by have q := hj_19_0; omega
            refine lv_aload_n (pc := 67) E.1 E.2.1 dX12_readSteps_67 rfl (lv_at hl21 0 rfl) ?_
            refine cm_i (pc := 68) hw164 (rn_M (As := []) (rest := []) E hw164 (s_readAgainEnd l D cI cJ _ M mr (upd (upd (upd (upd (upd (upd (upd (upd mi 22 x_6) 23 x_7) 24 x_8) 25 x_9) 35 x_13) 38 x_10) 39 x_11) 48 x_12) (va_up (va_up mf 46 g_14) 47 g_15) mg (by show 0 ≤ x_7.toInt; omega) (by show x_7.toInt ≤ x_6.toInt; omega) (by show x_6.toInt ≤ (mi 21).toInt; omega) (by show (mi 21).toInt ≤ 400; omega) (by show 0 ≤ x_8.toInt; omega) (by show x_8.toInt ≤ 4; omega) (by show x_8.toInt ≤ 4 * x_6.toInt - 4 * x_7.toInt; omega) (by show ((mf 26) 153).toInt = 32; omega) (by show 0 ≤ (mi 6).toInt ∧ (mi 6).toInt ≤ 10; omega) (by show 0 ≤ x_12.toInt; omega) (by show 3 * x_12.toInt ≤ x_7.toInt; omega) (by show 1 ≤ x_8.toInt; omega) (by show 1 ≤ x_13.toInt ∧ x_13.toInt ≤ 4; omega) (show (∀ j : Nat, j < 154 → (mf 26) j = w0 j) from lf_words) (show (x_8.toInt = 2 → x_9.toInt = 30 → x_7.toInt + 3 ≤ x_6.toInt) from hj_19_1)) (gdV q_1754 q_1756 q_74 q_162 q_1757) hdV_X12_readAgainEnd ⟨rfl, rfl⟩ ⟨(Nat.le_of_ble_eq_true rfl), (Nat.le_of_ble_eq_true rfl)⟩ ⟨(Nat.le_of_ble_eq_true rfl), (Nat.le_of_ble_eq_true rfl)⟩ 12 rfl rfl rfl rfl hl21.1 rfl (Nat.le_of_ble_eq_true rfl) dX12_readSteps_68) (fun r_235 u_234 H1 locs hp hw236 => ?_)
            obtain ⟨nspot_237, nfrom_238, ntoken_239, nvalue_240, nreadFault_241, nreadPlace_242, gstepOp_243, gstepHow_244, nsteps_245, nopen_246⟩ := u_234
            generalize H1 = H at hw236 ⊢
            have hw247 : WD D A s.heap (MW cI cJ M mr (upd (upd (upd (upd (upd (upd (upd (upd mi 22 nspot_237) 23 nfrom_238) 24 ntoken_239) 25 nvalue_240) 35 nopen_246) 38 nreadFault_241) 39 nreadPlace_242) 48 nsteps_245) (va_up (va_up mf 46 gstepOp_243) 47 gstepHow_244) mg) H locs := hw236
            obtain ⟨hp_248, hp_249, hp_250, hp_251, hp_252, hp_253, hp_254, hp_255, hp_256⟩ := hp
            have hp_248 : 0 ≤ nfrom_238.toInt := hp_248
            have hp_249 : nfrom_238.toInt ≤ nspot_237.toInt := hp_249
            have hp_250 : nspot_237.toInt ≤ (mi 21).toInt := hp_250
            have hp_251 : 0 ≤ ntoken_239.toInt := hp_251
            have hp_252 : ntoken_239.toInt ≤ 4 := hp_252
            have hp_253 : ntoken_239.toInt ≤ 4 * nspot_237.toInt - 4 * nfrom_238.toInt := hp_253
            have hp_254 : (ntoken_239.toInt = 2 → nvalue_240.toInt = 30 → nfrom_238.toInt + 3 ≤ nspot_237.toInt) := hp_254
            have hp_255 : r_235 = 0 → (∀ t : Nat, RSP g_14 g_15 (mi 6).toInt ((x_12.toInt).toNat) (t + 1) → RSP gstepOp_243 gstepHow_244 (mi 6).toInt ((nsteps_245.toInt).toNat) t) := hp_255
            rcases hp_256 with ⟨rfl, ha_257, ha_258, ha_259⟩
            · skip
              have hp_255 := hp_255 rfl
              have ha_257 : x_7.toInt + 1 ≤ nfrom_238.toInt := ha_257
              have ha_258 : nsteps_245.toInt = x_12.toInt + 1 := ha_258
              have ha_259 : nopen_246.toInt = x_13.toInt - 1 := ha_259
              refine lv_istore_n (pc := 71) (lv' := [(1, .int 0), (0, .ref M)]) E.1 E.2.1 dX12_readSteps_71 rfl hl21 (by decide) rfl (fun ls hl260 => ?_)
              refine lv_iload_n (pc := 72) E.1 E.2.1 dX12_readSteps_72 rfl (lv_at hl260 0 rfl) ?_
              refine lv_iconst (pc := 73) (v := (-1)) E.1 E.2.1 dX12_readSteps_73 (by decide +kernel) ?_
              refine lv_icmp_ne (pc := 74) (tgt := 79) E.1 E.2.1 dX12_readSteps_74 (by decide) (fun _ => ?_) (fun c_261 => absurd c_261 (mneE (a := 0) (b := (-1)) (by decide +kernel) (by decide +kernel) (by omega)))
              refine lv_goto (pc := 79) (tgt := 5) E.1 E.2.1 dX12_readSteps_79 (by decide) ?_
              exact ih_16 nspot_237 nfrom_238 ntoken_239 nvalue_240 nreadFault_241 nreadPlace_242 nsteps_245 nopen_246 gstepOp_243 gstepHow_244 _ _ _ ⟨(by show 0 ≤ nfrom_238.toInt; omega), (by show nfrom_238.toInt ≤ nspot_237.toInt; omega), (by show nspot_237.toInt ≤ (mi 21).toInt; omega), (by show 0 ≤ ntoken_239.toInt; omega), (by show ntoken_239.toInt ≤ 4; omega), (by show ntoken_239.toInt ≤ 4 * nspot_237.toInt - 4 * nfrom_238.toInt; omega), (by show 0 ≤ nsteps_245.toInt; omega), (by show 3 * nsteps_245.toInt + 2 * nopen_246.toInt ≤ nfrom_238.toInt; omega), (by show 0 ≤ nopen_246.toInt; omega), (by show nopen_246.toInt ≤ 4; omega), (hp_255 _ (RSP_n hi_15_10 rfl (by omega))), (show (ntoken_239.toInt = 2 → nvalue_240.toInt = 30 → nfrom_238.toInt + 3 ≤ nspot_237.toInt) from hp_254)⟩ (by omega) hw247 (lv_sub hl260 [1] rfl)
      refine lv_aload_n (pc := 5) E.1 E.2.1 dX12_readSteps_5 rfl (lv_at hl18 0 rfl) ?_
      refine cm_i (pc := 6) hw17 (rn_M (As := []) (rest := []) E hw17 (s_isStep l D cI cJ _ M mr (upd (upd (upd (upd (upd (upd (upd (upd mi 22 x_6) 23 x_7) 24 x_8) 25 x_9) 35 x_13) 38 x_10) 39 x_11) 48 x_12) (va_up (va_up mf 46 g_14) 47 g_15) mg ) (gdV q_1738 q_1740 q_70 q_162 q_1741) hdV_X12_isStep ⟨rfl, rfl⟩ ⟨(Nat.le_of_ble_eq_true rfl), (Nat.le_of_ble_eq_true rfl)⟩ ⟨(Nat.le_of_ble_eq_true rfl), (Nat.le_of_ble_eq_true rfl)⟩ 12 rfl rfl rfl rfl hl18.1 rfl (Nat.le_of_ble_eq_true rfl) dX12_readSteps_6) (fun r_263 u_262 H1 locs hp hw264 => ?_)
      generalize H1 = H at hw264 ⊢
      have hw265 : WD D A s.heap (MW cI cJ M mr (upd (upd (upd (upd (upd (upd (upd (upd mi 22 x_6) 23 x_7) 24 x_8) 25 x_9) 35 x_13) 38 x_10) 39 x_11) 48 x_12) (va_up (va_up mf 46 g_14) 47 g_15) mg) H locs := hw264
      have hp_266 := hp
      rcases hp_266 with ⟨rfl, ha_267, ha_268⟩ | ⟨rfl, ha_269, ha_270⟩ | ⟨rfl, ha_271⟩ | ⟨rfl, ha_272, ha_273⟩
      · skip
        have ha_267 : x_8.toInt = 2 := ha_267
        have ha_268 : x_9.toInt = 28 := ha_268
        refine lv_if_ne (pc := 9) (tgt := 37) E.1 E.2.1 dX12_readSteps_9 (by decide) (fun _ => ?_) (fun c_274 => absurd c_274 (mneE (a := 1) (b := 0) (by decide +kernel) (by decide +kernel) (by omega)))
        exact join_19  _ _ _ ⟨(by omega), (show (x_8.toInt = 2 → x_9.toInt = 30 → x_7.toInt + 3 ≤ x_6.toInt) from hi_15_11)⟩ hw265 (lv_sub hl18 [0] rfl)
      · skip
        have ha_269 : x_8.toInt = 2 := ha_269
        have ha_270 : x_9.toInt = 29 := ha_270
        refine lv_if_ne (pc := 9) (tgt := 37) E.1 E.2.1 dX12_readSteps_9 (by decide) (fun _ => ?_) (fun c_275 => absurd c_275 (mneE (a := 1) (b := 0) (by decide +kernel) (by decide +kernel) (by omega)))
        exact join_19  _ _ _ ⟨(by omega), (show (x_8.toInt = 2 → x_9.toInt = 30 → x_7.toInt + 3 ≤ x_6.toInt) from hi_15_11)⟩ hw265 (lv_sub hl18 [0] rfl)
      · skip
        have ha_271 : ¬ x_8.toInt = 2 := ha_271
        refine lv_if_ne (pc := 9) (tgt := 37) E.1 E.2.1 dX12_readSteps_9 (by decide) (fun c_276 => absurd (meqE (a := 0) (b := 0) (by decide +kernel) (by decide +kernel) (by omega)) c_276) (fun _ => ?_)
        refine lv_aload_n (pc := 12) E.1 E.2.1 dX12_readSteps_12 rfl (lv_at hl18 0 rfl) ?_
        refine lv_bipush (pc := 13) (v := 30) E.1 E.2.1 dX12_readSteps_13 (by decide +kernel) ?_
        refine cm_i (pc := 15) hw265 (rn_M (As := [.int 30]) (rest := []) E hw265 (s_isWord3 l D cI cJ _ M mr (upd (upd (upd (upd (upd (upd (upd (upd mi 22 x_6) 23 x_7) 24 x_8) 25 x_9) 35 x_13) 38 x_10) 39 x_11) 48 x_12) (va_up (va_up mf 46 g_14) 47 g_15) mg 30) (gdV q_1694 q_1696 q_59 q_162 q_1697) hdV_X12_isWord ⟨rfl, rfl⟩ ⟨(Nat.le_of_ble_eq_true rfl), (Nat.le_of_ble_eq_true rfl)⟩ ⟨(Nat.le_of_ble_eq_true rfl), (Nat.le_of_ble_eq_true rfl)⟩ 12 rfl rfl rfl rfl hl18.1 rfl (Nat.le_of_ble_eq_true rfl) dX12_readSteps_15) (fun r_278 u_277 H1 locs hp hw279 => ?_)
        generalize H1 = H at hw279 ⊢
        have hw280 : WD D A s.heap (MW cI cJ M mr (upd (upd (upd (upd (upd (upd (upd (upd mi 22 x_6) 23 x_7) 24 x_8) 25 x_9) 35 x_13) 38 x_10) 39 x_11) 48 x_12) (va_up (va_up mf 46 g_14) 47 g_15) mg) H locs := hw279
        have hp_281 := hp
        rcases hp_281 with ⟨rfl, ha_282, ha_283⟩ | ⟨rfl, ha_284⟩ | ⟨rfl, ha_285⟩
        · skip
          have ha_282 : x_8.toInt = 2 := ha_282
          have ha_283 : x_9.toInt = (30 : Int32).toInt := ha_283
          rw [show (30 : Int32).toInt = 30 from by decide +kernel] at ha_283
          exfalso; omega
        · skip
          have ha_284 : ¬ x_8.toInt = 2 := ha_284
          refine lv_if_ne (pc := 18) (tgt := 37) E.1 E.2.1 dX12_readSteps_18 (by decide) (fun c_286 => absurd (meqE (a := 0) (b := 0) (by decide +kernel) (by decide +kernel) (by omega)) c_286) (fun _ => ?_)
          refine lv_aload_n (pc := 21) E.1 E.2.1 dX12_readSteps_21 rfl (lv_at hl18 0 rfl) ?_
          refine x_get (pc := 22) (T := TX12) (N := 70) (ci := 12) (v := .int x_13) E hw280 inX12 0 35 q_1434 rfl rfl (by decide) rfl rfl dX12_readSteps_22 ?_
          refine lv_if_le (pc := 25) (tgt := 82) E.1 E.2.1 dX12_readSteps_25 (by decide) (fun c_287 => ?_) (fun c_287 => ?_)
          · skip
            have hc_287 := leE (a := x_13.toInt) (b := 0) rfl (by decide +kernel) c_287
            refine lv_aload_n (pc := 82) E.1 E.2.1 dX12_readSteps_82 rfl (lv_at hl18 0 rfl) ?_
            refine x_get (pc := 83) (T := TX12) (N := 70) (ci := 12) (v := .int x_13) E hw280 inX12 0 35 q_1434 rfl rfl (by decide) rfl rfl dX12_readSteps_83 ?_
            refine lv_if_ne (pc := 86) (tgt := 100) E.1 E.2.1 dX12_readSteps_86 (by decide) (fun c_288 => absurd (meqE (a := x_13.toInt) (b := 0) rfl (by decide +kernel) (by omega)) c_288) (fun _ => ?_)
            refine lv_aload_n (pc := 89) E.1 E.2.1 dX12_readSteps_89 rfl (lv_at hl18 0 rfl) ?_
            refine x_get (pc := 90) (T := TX12) (N := 70) (ci := 12) (v := .int x_8) E hw280 inX12 0 24 q_1423 rfl rfl (by decide) rfl rfl dX12_readSteps_90 ?_
            refine lv_if_ne (pc := 93) (tgt := 100) E.1 E.2.1 dX12_readSteps_93 (by decide) (fun c_289 => ?_) (fun c_289 => ?_)
            · skip
              have hc_289 := neE (a := x_8.toInt) (b := 0) rfl (by decide +kernel) c_289
              refine lv_aload_n (pc := 100) E.1 E.2.1 dX12_readSteps_100 rfl (lv_at hl18 0 rfl) ?_
              refine lv_iconst (pc := 101) (v := 1) E.1 E.2.1 dX12_readSteps_101 (by decide +kernel) ?_
              refine cm_i (pc := 102) hw280 (rn_M (As := [.int 1]) (rest := []) E hw280 (s_errs2 l D cI cJ _ M mr (upd (upd (upd (upd (upd (upd (upd (upd mi 22 x_6) 23 x_7) 24 x_8) 25 x_9) 35 x_13) 38 x_10) 39 x_11) 48 x_12) (va_up (va_up mf 46 g_14) 47 g_15) mg 1) (gdV q_1698 q_1700 q_60 q_162 q_1701) hdV_X12_errs ⟨rfl, rfl⟩ ⟨(Nat.le_of_ble_eq_true rfl), (Nat.le_of_ble_eq_true rfl)⟩ ⟨(Nat.le_of_ble_eq_true rfl), (Nat.le_of_ble_eq_true rfl)⟩ 12 rfl rfl rfl rfl hl18.1 rfl (Nat.le_of_ble_eq_true rfl) dX12_readSteps_102) (fun r_291 u_290 H1 locs hp hw292 => ?_)
              obtain ⟨nreadFault_293, nreadPlace_294⟩ := u_290
              generalize H1 = H at hw292 ⊢
              have hw295 : WD D A s.heap (MW cI cJ M mr (upd (upd (upd (upd (upd (upd (upd (upd mi 22 x_6) 23 x_7) 24 x_8) 25 x_9) 35 x_13) 38 nreadFault_293) 39 nreadPlace_294) 48 x_12) (va_up (va_up mf 46 g_14) 47 g_15) mg) H locs := hw292
              have hp_296 := hp
              rcases hp_296 with rfl
              · skip
                exact em_i (w1 := (fun (u : Int32 × Int32 × Int32 × Int32 × Int32 × Int32 × (Nat → Int32) × (Nat → Int32) × Int32 × Int32) => (MW cI cJ M mr (upd (upd (upd (upd (upd (upd (upd (upd mi 22 u.1) 23 u.2.1) 24 u.2.2.1) 25 u.2.2.2.1) 38 u.2.2.2.2.1) 39 u.2.2.2.2.2.1) 48 u.2.2.2.2.2.2.2.2.1) 35 u.2.2.2.2.2.2.2.2.2) (va_up (va_up mf 46 u.2.2.2.2.2.2.1) 47 u.2.2.2.2.2.2.2.1) mg))) E hr hlk (x_6, x_7, x_8, x_9, nreadFault_293, nreadPlace_294, g_14, g_15, x_12, x_13) hw295 ⟨(by show 0 ≤ x_7.toInt; have k_0 : ((-1) : Int32).toInt = -1 := (by decide +kernel); omega), (by show x_7.toInt ≤ x_6.toInt; have k_0 : ((-1) : Int32).toInt = -1 := (by decide +kernel); omega), (by show x_6.toInt ≤ (mi 21).toInt; have k_0 : ((-1) : Int32).toInt = -1 := (by decide +kernel); omega), (by show 0 ≤ x_8.toInt; have k_0 : ((-1) : Int32).toInt = -1 := (by decide +kernel); omega), (by show x_8.toInt ≤ 4; have k_0 : ((-1) : Int32).toInt = -1 := (by decide +kernel); omega), (by show x_8.toInt ≤ 4 * x_6.toInt - 4 * x_7.toInt; have k_0 : ((-1) : Int32).toInt = -1 := (by decide +kernel); omega), hi_15_11, (fun h => absurd h (by decide +kernel)), (Or.inl rfl)⟩ (Nat.le_of_ble_eq_true rfl) (Nat.le_of_ble_eq_true rfl) dX12_readSteps_105
            · skip
              have hc_289 := eqE (a := x_8.toInt) (b := 0) rfl (by decide +kernel) c_289
              refine lv_iconst (pc := 96) (v := 0) E.1 E.2.1 dX12_readSteps_96 (by decide +kernel) ?_
              refine lv_goto (pc := 97) (tgt := 105) E.1 E.2.1 dX12_readSteps_97 (by decide) ?_
              exact em_i (w1 := (fun (u : Int32 × Int32 × Int32 × Int32 × Int32 × Int32 × (Nat → Int32) × (Nat → Int32) × Int32 × Int32) => (MW cI cJ M mr (upd (upd (upd (upd (upd (upd (upd (upd mi 22 u.1) 23 u.2.1) 24 u.2.2.1) 25 u.2.2.2.1) 38 u.2.2.2.2.1) 39 u.2.2.2.2.2.1) 48 u.2.2.2.2.2.2.2.2.1) 35 u.2.2.2.2.2.2.2.2.2) (va_up (va_up mf 46 u.2.2.2.2.2.2.1) 47 u.2.2.2.2.2.2.2.1) mg))) E hr hlk (x_6, x_7, x_8, x_9, x_10, x_11, g_14, g_15, x_12, x_13) hw280 ⟨(by show 0 ≤ x_7.toInt; have k_0 : (0 : Int32).toInt = 0 := (by decide +kernel); omega), (by show x_7.toInt ≤ x_6.toInt; have k_0 : (0 : Int32).toInt = 0 := (by decide +kernel); omega), (by show x_6.toInt ≤ (mi 21).toInt; have k_0 : (0 : Int32).toInt = 0 := (by decide +kernel); omega), (by show 0 ≤ x_8.toInt; have k_0 : (0 : Int32).toInt = 0 := (by decide +kernel); omega), (by show x_8.toInt ≤ 4; have k_0 : (0 : Int32).toInt = 0 := (by decide +kernel); omega), (by show x_8.toInt ≤ 4 * x_6.toInt - 4 * x_7.toInt; have k_0 : (0 : Int32).toInt = 0 := (by decide +kernel); omega), hi_15_11, (fun _ => (show (∃ t : Nat, RSP g_14 g_15 (mi 6).toInt ((x_12.toInt).toNat) t) from ⟨_, hi_15_10⟩)), (Or.inr (⟨rfl, (by show 0 ≤ x_12.toInt; omega), (by show x_12.toInt ≤ 140; omega)⟩))⟩ (Nat.le_of_ble_eq_true rfl) (Nat.le_of_ble_eq_true rfl) dX12_readSteps_105
          · skip
            have hc_287 := nleE (a := x_13.toInt) (b := 0) rfl (by decide +kernel) c_287
            refine lv_aload_n (pc := 28) E.1 E.2.1 dX12_readSteps_28 rfl (lv_at hl18 0 rfl) ?_
            refine lv_bipush (pc := 29) (v := 41) E.1 E.2.1 dX12_readSteps_29 (by decide +kernel) ?_
            refine cm_i (pc := 31) hw280 (rn_M (As := [.int 41]) (rest := []) E hw280 (s_isSign3 l D cI cJ _ M mr (upd (upd (upd (upd (upd (upd (upd (upd mi 22 x_6) 23 x_7) 24 x_8) 25 x_9) 35 x_13) 38 x_10) 39 x_11) 48 x_12) (va_up (va_up mf 46 g_14) 47 g_15) mg 41) (gdV q_1718 q_1720 q_65 q_162 q_1721) hdV_X12_isSign ⟨rfl, rfl⟩ ⟨(Nat.le_of_ble_eq_true rfl), (Nat.le_of_ble_eq_true rfl)⟩ ⟨(Nat.le_of_ble_eq_true rfl), (Nat.le_of_ble_eq_true rfl)⟩ 12 rfl rfl rfl rfl hl18.1 rfl (Nat.le_of_ble_eq_true rfl) dX12_readSteps_31) (fun r_298 u_297 H1 locs hp hw299 => ?_)
            generalize H1 = H at hw299 ⊢
            have hw300 : WD D A s.heap (MW cI cJ M mr (upd (upd (upd (upd (upd (upd (upd (upd mi 22 x_6) 23 x_7) 24 x_8) 25 x_9) 35 x_13) 38 x_10) 39 x_11) 48 x_12) (va_up (va_up mf 46 g_14) 47 g_15) mg) H locs := hw299
            have hp_301 := hp
            rcases hp_301 with ⟨rfl, ha_302, ha_303⟩ | ⟨rfl, ha_304⟩ | ⟨rfl, ha_305⟩
            · skip
              have ha_302 : x_8.toInt = 4 := ha_302
              have ha_303 : x_9.toInt = (41 : Int32).toInt := ha_303
              rw [show (41 : Int32).toInt = 41 from by decide +kernel] at ha_303
              refine lv_if_eq (pc := 34) (tgt := 82) E.1 E.2.1 dX12_readSteps_34 (by decide) (fun c_306 => absurd c_306 (mneE (a := 1) (b := 0) (by decide +kernel) (by decide +kernel) (by omega))) (fun _ => ?_)
              exact join_19  _ _ _ ⟨(by omega), (show (x_8.toInt = 2 → x_9.toInt = 30 → x_7.toInt + 3 ≤ x_6.toInt) from hi_15_11)⟩ hw300 (lv_sub hl18 [0] rfl)
            · skip
              have ha_304 : ¬ x_8.toInt = 4 := ha_304
              refine lv_if_eq (pc := 34) (tgt := 82) E.1 E.2.1 dX12_readSteps_34 (by decide) (fun _ => ?_) (fun c_307 => absurd (meqE (a := 0) (b := 0) (by decide +kernel) (by decide +kernel) (by omega)) c_307)
              refine lv_aload_n (pc := 82) E.1 E.2.1 dX12_readSteps_82 rfl (lv_at hl18 0 rfl) ?_
              refine x_get (pc := 83) (T := TX12) (N := 70) (ci := 12) (v := .int x_13) E hw300 inX12 0 35 q_1434 rfl rfl (by decide) rfl rfl dX12_readSteps_83 ?_
              refine lv_if_ne (pc := 86) (tgt := 100) E.1 E.2.1 dX12_readSteps_86 (by decide) (fun _ => ?_) (fun c_308 => absurd c_308 (mneE (a := x_13.toInt) (b := 0) rfl (by decide +kernel) (by omega)))
              refine lv_aload_n (pc := 100) E.1 E.2.1 dX12_readSteps_100 rfl (lv_at hl18 0 rfl) ?_
              refine lv_iconst (pc := 101) (v := 1) E.1 E.2.1 dX12_readSteps_101 (by decide +kernel) ?_
              refine cm_i (pc := 102) hw300 (rn_M (As := [.int 1]) (rest := []) E hw300 (s_errs2 l D cI cJ _ M mr (upd (upd (upd (upd (upd (upd (upd (upd mi 22 x_6) 23 x_7) 24 x_8) 25 x_9) 35 x_13) 38 x_10) 39 x_11) 48 x_12) (va_up (va_up mf 46 g_14) 47 g_15) mg 1) (gdV q_1698 q_1700 q_60 q_162 q_1701) hdV_X12_errs ⟨rfl, rfl⟩ ⟨(Nat.le_of_ble_eq_true rfl), (Nat.le_of_ble_eq_true rfl)⟩ ⟨(Nat.le_of_ble_eq_true rfl), (Nat.le_of_ble_eq_true rfl)⟩ 12 rfl rfl rfl rfl hl18.1 rfl (Nat.le_of_ble_eq_true rfl) dX12_readSteps_102) (fun r_310 u_309 H1 locs hp hw311 => ?_)
              obtain ⟨nreadFault_312, nreadPlace_313⟩ := u_309
              generalize H1 = H at hw311 ⊢
              have hw314 : WD D A s.heap (MW cI cJ M mr (upd (upd (upd (upd (upd (upd (upd (upd mi 22 x_6) 23 x_7) 24 x_8) 25 x_9) 35 x_13) 38 nreadFault_312) 39 nreadPlace_313) 48 x_12) (va_up (va_up mf 46 g_14) 47 g_15) mg) H locs := hw311
              have hp_315 := hp
              rcases hp_315 with rfl
              · skip
                exact em_i (w1 := (fun (u : Int32 × Int32 × Int32 × Int32 × Int32 × Int32 × (Nat → Int32) × (Nat → Int32) × Int32 × Int32) => (MW cI cJ M mr (upd (upd (upd (upd (upd (upd (upd (upd mi 22 u.1) 23 u.2.1) 24 u.2.2.1) 25 u.2.2.2.1) 38 u.2.2.2.2.1) 39 u.2.2.2.2.2.1) 48 u.2.2.2.2.2.2.2.2.1) 35 u.2.2.2.2.2.2.2.2.2) (va_up (va_up mf 46 u.2.2.2.2.2.2.1) 47 u.2.2.2.2.2.2.2.1) mg))) E hr hlk (x_6, x_7, x_8, x_9, nreadFault_312, nreadPlace_313, g_14, g_15, x_12, x_13) hw314 ⟨(by show 0 ≤ x_7.toInt; have k_0 : ((-1) : Int32).toInt = -1 := (by decide +kernel); omega), (by show x_7.toInt ≤ x_6.toInt; have k_0 : ((-1) : Int32).toInt = -1 := (by decide +kernel); omega), (by show x_6.toInt ≤ (mi 21).toInt; have k_0 : ((-1) : Int32).toInt = -1 := (by decide +kernel); omega), (by show 0 ≤ x_8.toInt; have k_0 : ((-1) : Int32).toInt = -1 := (by decide +kernel); omega), (by show x_8.toInt ≤ 4; have k_0 : ((-1) : Int32).toInt = -1 := (by decide +kernel); omega), (by show x_8.toInt ≤ 4 * x_6.toInt - 4 * x_7.toInt; have k_0 : ((-1) : Int32).toInt = -1 := (by decide +kernel); omega), hi_15_11, (fun h => absurd h (by decide +kernel)), (Or.inl rfl)⟩ (Nat.le_of_ble_eq_true rfl) (Nat.le_of_ble_eq_true rfl) dX12_readSteps_105
            · skip
              have ha_305 : ¬ x_9.toInt = (41 : Int32).toInt := ha_305
              rw [show (41 : Int32).toInt = 41 from by decide +kernel] at ha_305
              refine lv_if_eq (pc := 34) (tgt := 82) E.1 E.2.1 dX12_readSteps_34 (by decide) (fun _ => ?_) (fun c_316 => absurd (meqE (a := 0) (b := 0) (by decide +kernel) (by decide +kernel) (by omega)) c_316)
              refine lv_aload_n (pc := 82) E.1 E.2.1 dX12_readSteps_82 rfl (lv_at hl18 0 rfl) ?_
              refine x_get (pc := 83) (T := TX12) (N := 70) (ci := 12) (v := .int x_13) E hw300 inX12 0 35 q_1434 rfl rfl (by decide) rfl rfl dX12_readSteps_83 ?_
              refine lv_if_ne (pc := 86) (tgt := 100) E.1 E.2.1 dX12_readSteps_86 (by decide) (fun _ => ?_) (fun c_317 => absurd c_317 (mneE (a := x_13.toInt) (b := 0) rfl (by decide +kernel) (by omega)))
              refine lv_aload_n (pc := 100) E.1 E.2.1 dX12_readSteps_100 rfl (lv_at hl18 0 rfl) ?_
              refine lv_iconst (pc := 101) (v := 1) E.1 E.2.1 dX12_readSteps_101 (by decide +kernel) ?_
              refine cm_i (pc := 102) hw300 (rn_M (As := [.int 1]) (rest := []) E hw300 (s_errs2 l D cI cJ _ M mr (upd (upd (upd (upd (upd (upd (upd (upd mi 22 x_6) 23 x_7) 24 x_8) 25 x_9) 35 x_13) 38 x_10) 39 x_11) 48 x_12) (va_up (va_up mf 46 g_14) 47 g_15) mg 1) (gdV q_1698 q_1700 q_60 q_162 q_1701) hdV_X12_errs ⟨rfl, rfl⟩ ⟨(Nat.le_of_ble_eq_true rfl), (Nat.le_of_ble_eq_true rfl)⟩ ⟨(Nat.le_of_ble_eq_true rfl), (Nat.le_of_ble_eq_true rfl)⟩ 12 rfl rfl rfl rfl hl18.1 rfl (Nat.le_of_ble_eq_true rfl) dX12_readSteps_102) (fun r_319 u_318 H1 locs hp hw320 => ?_)
              obtain ⟨nreadFault_321, nreadPlace_322⟩ := u_318
              generalize H1 = H at hw320 ⊢
              have hw323 : WD D A s.heap (MW cI cJ M mr (upd (upd (upd (upd (upd (upd (upd (upd mi 22 x_6) 23 x_7) 24 x_8) 25 x_9) 35 x_13) 38 nreadFault_321) 39 nreadPlace_322) 48 x_12) (va_up (va_up mf 46 g_14) 47 g_15) mg) H locs := hw320
              have hp_324 := hp
              rcases hp_324 with rfl
              · skip
                exact em_i (w1 := (fun (u : Int32 × Int32 × Int32 × Int32 × Int32 × Int32 × (Nat → Int32) × (Nat → Int32) × Int32 × Int32) => (MW cI cJ M mr (upd (upd (upd (upd (upd (upd (upd (upd mi 22 u.1) 23 u.2.1) 24 u.2.2.1) 25 u.2.2.2.1) 38 u.2.2.2.2.1) 39 u.2.2.2.2.2.1) 48 u.2.2.2.2.2.2.2.2.1) 35 u.2.2.2.2.2.2.2.2.2) (va_up (va_up mf 46 u.2.2.2.2.2.2.1) 47 u.2.2.2.2.2.2.2.1) mg))) E hr hlk (x_6, x_7, x_8, x_9, nreadFault_321, nreadPlace_322, g_14, g_15, x_12, x_13) hw323 ⟨(by show 0 ≤ x_7.toInt; have k_0 : ((-1) : Int32).toInt = -1 := (by decide +kernel); omega), (by show x_7.toInt ≤ x_6.toInt; have k_0 : ((-1) : Int32).toInt = -1 := (by decide +kernel); omega), (by show x_6.toInt ≤ (mi 21).toInt; have k_0 : ((-1) : Int32).toInt = -1 := (by decide +kernel); omega), (by show 0 ≤ x_8.toInt; have k_0 : ((-1) : Int32).toInt = -1 := (by decide +kernel); omega), (by show x_8.toInt ≤ 4; have k_0 : ((-1) : Int32).toInt = -1 := (by decide +kernel); omega), (by show x_8.toInt ≤ 4 * x_6.toInt - 4 * x_7.toInt; have k_0 : ((-1) : Int32).toInt = -1 := (by decide +kernel); omega), hi_15_11, (fun h => absurd h (by decide +kernel)), (Or.inl rfl)⟩ (Nat.le_of_ble_eq_true rfl) (Nat.le_of_ble_eq_true rfl) dX12_readSteps_105
        · skip
          have ha_285 : ¬ x_9.toInt = (30 : Int32).toInt := ha_285
          rw [show (30 : Int32).toInt = 30 from by decide +kernel] at ha_285
          refine lv_if_ne (pc := 18) (tgt := 37) E.1 E.2.1 dX12_readSteps_18 (by decide) (fun c_325 => absurd (meqE (a := 0) (b := 0) (by decide +kernel) (by decide +kernel) (by omega)) c_325) (fun _ => ?_)
          refine lv_aload_n (pc := 21) E.1 E.2.1 dX12_readSteps_21 rfl (lv_at hl18 0 rfl) ?_
          refine x_get (pc := 22) (T := TX12) (N := 70) (ci := 12) (v := .int x_13) E hw280 inX12 0 35 q_1434 rfl rfl (by decide) rfl rfl dX12_readSteps_22 ?_
          refine lv_if_le (pc := 25) (tgt := 82) E.1 E.2.1 dX12_readSteps_25 (by decide) (fun c_326 => ?_) (fun c_326 => ?_)
          · skip
            have hc_326 := leE (a := x_13.toInt) (b := 0) rfl (by decide +kernel) c_326
            refine lv_aload_n (pc := 82) E.1 E.2.1 dX12_readSteps_82 rfl (lv_at hl18 0 rfl) ?_
            refine x_get (pc := 83) (T := TX12) (N := 70) (ci := 12) (v := .int x_13) E hw280 inX12 0 35 q_1434 rfl rfl (by decide) rfl rfl dX12_readSteps_83 ?_
            refine lv_if_ne (pc := 86) (tgt := 100) E.1 E.2.1 dX12_readSteps_86 (by decide) (fun c_327 => absurd (meqE (a := x_13.toInt) (b := 0) rfl (by decide +kernel) (by omega)) c_327) (fun _ => ?_)
            refine lv_aload_n (pc := 89) E.1 E.2.1 dX12_readSteps_89 rfl (lv_at hl18 0 rfl) ?_
            refine x_get (pc := 90) (T := TX12) (N := 70) (ci := 12) (v := .int x_8) E hw280 inX12 0 24 q_1423 rfl rfl (by decide) rfl rfl dX12_readSteps_90 ?_
            refine lv_if_ne (pc := 93) (tgt := 100) E.1 E.2.1 dX12_readSteps_93 (by decide) (fun c_328 => ?_) (fun c_328 => ?_)
            · skip
              have hc_328 := neE (a := x_8.toInt) (b := 0) rfl (by decide +kernel) c_328
              refine lv_aload_n (pc := 100) E.1 E.2.1 dX12_readSteps_100 rfl (lv_at hl18 0 rfl) ?_
              refine lv_iconst (pc := 101) (v := 1) E.1 E.2.1 dX12_readSteps_101 (by decide +kernel) ?_
              refine cm_i (pc := 102) hw280 (rn_M (As := [.int 1]) (rest := []) E hw280 (s_errs2 l D cI cJ _ M mr (upd (upd (upd (upd (upd (upd (upd (upd mi 22 x_6) 23 x_7) 24 x_8) 25 x_9) 35 x_13) 38 x_10) 39 x_11) 48 x_12) (va_up (va_up mf 46 g_14) 47 g_15) mg 1) (gdV q_1698 q_1700 q_60 q_162 q_1701) hdV_X12_errs ⟨rfl, rfl⟩ ⟨(Nat.le_of_ble_eq_true rfl), (Nat.le_of_ble_eq_true rfl)⟩ ⟨(Nat.le_of_ble_eq_true rfl), (Nat.le_of_ble_eq_true rfl)⟩ 12 rfl rfl rfl rfl hl18.1 rfl (Nat.le_of_ble_eq_true rfl) dX12_readSteps_102) (fun r_330 u_329 H1 locs hp hw331 => ?_)
              obtain ⟨nreadFault_332, nreadPlace_333⟩ := u_329
              generalize H1 = H at hw331 ⊢
              have hw334 : WD D A s.heap (MW cI cJ M mr (upd (upd (upd (upd (upd (upd (upd (upd mi 22 x_6) 23 x_7) 24 x_8) 25 x_9) 35 x_13) 38 nreadFault_332) 39 nreadPlace_333) 48 x_12) (va_up (va_up mf 46 g_14) 47 g_15) mg) H locs := hw331
              have hp_335 := hp
              rcases hp_335 with rfl
              · skip
                exact em_i (w1 := (fun (u : Int32 × Int32 × Int32 × Int32 × Int32 × Int32 × (Nat → Int32) × (Nat → Int32) × Int32 × Int32) => (MW cI cJ M mr (upd (upd (upd (upd (upd (upd (upd (upd mi 22 u.1) 23 u.2.1) 24 u.2.2.1) 25 u.2.2.2.1) 38 u.2.2.2.2.1) 39 u.2.2.2.2.2.1) 48 u.2.2.2.2.2.2.2.2.1) 35 u.2.2.2.2.2.2.2.2.2) (va_up (va_up mf 46 u.2.2.2.2.2.2.1) 47 u.2.2.2.2.2.2.2.1) mg))) E hr hlk (x_6, x_7, x_8, x_9, nreadFault_332, nreadPlace_333, g_14, g_15, x_12, x_13) hw334 ⟨(by show 0 ≤ x_7.toInt; have k_0 : ((-1) : Int32).toInt = -1 := (by decide +kernel); omega), (by show x_7.toInt ≤ x_6.toInt; have k_0 : ((-1) : Int32).toInt = -1 := (by decide +kernel); omega), (by show x_6.toInt ≤ (mi 21).toInt; have k_0 : ((-1) : Int32).toInt = -1 := (by decide +kernel); omega), (by show 0 ≤ x_8.toInt; have k_0 : ((-1) : Int32).toInt = -1 := (by decide +kernel); omega), (by show x_8.toInt ≤ 4; have k_0 : ((-1) : Int32).toInt = -1 := (by decide +kernel); omega), (by show x_8.toInt ≤ 4 * x_6.toInt - 4 * x_7.toInt; have k_0 : ((-1) : Int32).toInt = -1 := (by decide +kernel); omega), hi_15_11, (fun h => absurd h (by decide +kernel)), (Or.inl rfl)⟩ (Nat.le_of_ble_eq_true rfl) (Nat.le_of_ble_eq_true rfl) dX12_readSteps_105
            · skip
              have hc_328 := eqE (a := x_8.toInt) (b := 0) rfl (by decide +kernel) c_328
              refine lv_iconst (pc := 96) (v := 0) E.1 E.2.1 dX12_readSteps_96 (by decide +kernel) ?_
              refine lv_goto (pc := 97) (tgt := 105) E.1 E.2.1 dX12_readSteps_97 (by decide) ?_
              exact em_i (w1 := (fun (u : Int32 × Int32 × Int32 × Int32 × Int32 × Int32 × (Nat → Int32) × (Nat → Int32) × Int32 × Int32) => (MW cI cJ M mr (upd (upd (upd (upd (upd (upd (upd (upd mi 22 u.1) 23 u.2.1) 24 u.2.2.1) 25 u.2.2.2.1) 38 u.2.2.2.2.1) 39 u.2.2.2.2.2.1) 48 u.2.2.2.2.2.2.2.2.1) 35 u.2.2.2.2.2.2.2.2.2) (va_up (va_up mf 46 u.2.2.2.2.2.2.1) 47 u.2.2.2.2.2.2.2.1) mg))) E hr hlk (x_6, x_7, x_8, x_9, x_10, x_11, g_14, g_15, x_12, x_13) hw280 ⟨(by show 0 ≤ x_7.toInt; have k_0 : (0 : Int32).toInt = 0 := (by decide +kernel); omega), (by show x_7.toInt ≤ x_6.toInt; have k_0 : (0 : Int32).toInt = 0 := (by decide +kernel); omega), (by show x_6.toInt ≤ (mi 21).toInt; have k_0 : (0 : Int32).toInt = 0 := (by decide +kernel); omega), (by show 0 ≤ x_8.toInt; have k_0 : (0 : Int32).toInt = 0 := (by decide +kernel); omega), (by show x_8.toInt ≤ 4; have k_0 : (0 : Int32).toInt = 0 := (by decide +kernel); omega), (by show x_8.toInt ≤ 4 * x_6.toInt - 4 * x_7.toInt; have k_0 : (0 : Int32).toInt = 0 := (by decide +kernel); omega), hi_15_11, (fun _ => (show (∃ t : Nat, RSP g_14 g_15 (mi 6).toInt ((x_12.toInt).toNat) t) from ⟨_, hi_15_10⟩)), (Or.inr (⟨rfl, (by show 0 ≤ x_12.toInt; omega), (by show x_12.toInt ≤ 140; omega)⟩))⟩ (Nat.le_of_ble_eq_true rfl) (Nat.le_of_ble_eq_true rfl) dX12_readSteps_105
          · skip
            have hc_326 := nleE (a := x_13.toInt) (b := 0) rfl (by decide +kernel) c_326
            refine lv_aload_n (pc := 28) E.1 E.2.1 dX12_readSteps_28 rfl (lv_at hl18 0 rfl) ?_
            refine lv_bipush (pc := 29) (v := 41) E.1 E.2.1 dX12_readSteps_29 (by decide +kernel) ?_
            refine cm_i (pc := 31) hw280 (rn_M (As := [.int 41]) (rest := []) E hw280 (s_isSign3 l D cI cJ _ M mr (upd (upd (upd (upd (upd (upd (upd (upd mi 22 x_6) 23 x_7) 24 x_8) 25 x_9) 35 x_13) 38 x_10) 39 x_11) 48 x_12) (va_up (va_up mf 46 g_14) 47 g_15) mg 41) (gdV q_1718 q_1720 q_65 q_162 q_1721) hdV_X12_isSign ⟨rfl, rfl⟩ ⟨(Nat.le_of_ble_eq_true rfl), (Nat.le_of_ble_eq_true rfl)⟩ ⟨(Nat.le_of_ble_eq_true rfl), (Nat.le_of_ble_eq_true rfl)⟩ 12 rfl rfl rfl rfl hl18.1 rfl (Nat.le_of_ble_eq_true rfl) dX12_readSteps_31) (fun r_337 u_336 H1 locs hp hw338 => ?_)
            generalize H1 = H at hw338 ⊢
            have hw339 : WD D A s.heap (MW cI cJ M mr (upd (upd (upd (upd (upd (upd (upd (upd mi 22 x_6) 23 x_7) 24 x_8) 25 x_9) 35 x_13) 38 x_10) 39 x_11) 48 x_12) (va_up (va_up mf 46 g_14) 47 g_15) mg) H locs := hw338
            have hp_340 := hp
            rcases hp_340 with ⟨rfl, ha_341, ha_342⟩ | ⟨rfl, ha_343⟩ | ⟨rfl, ha_344⟩
            · skip
              have ha_341 : x_8.toInt = 4 := ha_341
              have ha_342 : x_9.toInt = (41 : Int32).toInt := ha_342
              rw [show (41 : Int32).toInt = 41 from by decide +kernel] at ha_342
              refine lv_if_eq (pc := 34) (tgt := 82) E.1 E.2.1 dX12_readSteps_34 (by decide) (fun c_345 => absurd c_345 (mneE (a := 1) (b := 0) (by decide +kernel) (by decide +kernel) (by omega))) (fun _ => ?_)
              exact join_19  _ _ _ ⟨(by omega), (show (x_8.toInt = 2 → x_9.toInt = 30 → x_7.toInt + 3 ≤ x_6.toInt) from hi_15_11)⟩ hw339 (lv_sub hl18 [0] rfl)
            · skip
              have ha_343 : ¬ x_8.toInt = 4 := ha_343
              refine lv_if_eq (pc := 34) (tgt := 82) E.1 E.2.1 dX12_readSteps_34 (by decide) (fun _ => ?_) (fun c_346 => absurd (meqE (a := 0) (b := 0) (by decide +kernel) (by decide +kernel) (by omega)) c_346)
              refine lv_aload_n (pc := 82) E.1 E.2.1 dX12_readSteps_82 rfl (lv_at hl18 0 rfl) ?_
              refine x_get (pc := 83) (T := TX12) (N := 70) (ci := 12) (v := .int x_13) E hw339 inX12 0 35 q_1434 rfl rfl (by decide) rfl rfl dX12_readSteps_83 ?_
              refine lv_if_ne (pc := 86) (tgt := 100) E.1 E.2.1 dX12_readSteps_86 (by decide) (fun _ => ?_) (fun c_347 => absurd c_347 (mneE (a := x_13.toInt) (b := 0) rfl (by decide +kernel) (by omega)))
              refine lv_aload_n (pc := 100) E.1 E.2.1 dX12_readSteps_100 rfl (lv_at hl18 0 rfl) ?_
              refine lv_iconst (pc := 101) (v := 1) E.1 E.2.1 dX12_readSteps_101 (by decide +kernel) ?_
              refine cm_i (pc := 102) hw339 (rn_M (As := [.int 1]) (rest := []) E hw339 (s_errs2 l D cI cJ _ M mr (upd (upd (upd (upd (upd (upd (upd (upd mi 22 x_6) 23 x_7) 24 x_8) 25 x_9) 35 x_13) 38 x_10) 39 x_11) 48 x_12) (va_up (va_up mf 46 g_14) 47 g_15) mg 1) (gdV q_1698 q_1700 q_60 q_162 q_1701) hdV_X12_errs ⟨rfl, rfl⟩ ⟨(Nat.le_of_ble_eq_true rfl), (Nat.le_of_ble_eq_true rfl)⟩ ⟨(Nat.le_of_ble_eq_true rfl), (Nat.le_of_ble_eq_true rfl)⟩ 12 rfl rfl rfl rfl hl18.1 rfl (Nat.le_of_ble_eq_true rfl) dX12_readSteps_102) (fun r_349 u_348 H1 locs hp hw350 => ?_)
              obtain ⟨nreadFault_351, nreadPlace_352⟩ := u_348
              generalize H1 = H at hw350 ⊢
              have hw353 : WD D A s.heap (MW cI cJ M mr (upd (upd (upd (upd (upd (upd (upd (upd mi 22 x_6) 23 x_7) 24 x_8) 25 x_9) 35 x_13) 38 nreadFault_351) 39 nreadPlace_352) 48 x_12) (va_up (va_up mf 46 g_14) 47 g_15) mg) H locs := hw350
              have hp_354 := hp
              rcases hp_354 with rfl
              · skip
                exact em_i (w1 := (fun (u : Int32 × Int32 × Int32 × Int32 × Int32 × Int32 × (Nat → Int32) × (Nat → Int32) × Int32 × Int32) => (MW cI cJ M mr (upd (upd (upd (upd (upd (upd (upd (upd mi 22 u.1) 23 u.2.1) 24 u.2.2.1) 25 u.2.2.2.1) 38 u.2.2.2.2.1) 39 u.2.2.2.2.2.1) 48 u.2.2.2.2.2.2.2.2.1) 35 u.2.2.2.2.2.2.2.2.2) (va_up (va_up mf 46 u.2.2.2.2.2.2.1) 47 u.2.2.2.2.2.2.2.1) mg))) E hr hlk (x_6, x_7, x_8, x_9, nreadFault_351, nreadPlace_352, g_14, g_15, x_12, x_13) hw353 ⟨(by show 0 ≤ x_7.toInt; have k_0 : ((-1) : Int32).toInt = -1 := (by decide +kernel); omega), (by show x_7.toInt ≤ x_6.toInt; have k_0 : ((-1) : Int32).toInt = -1 := (by decide +kernel); omega), (by show x_6.toInt ≤ (mi 21).toInt; have k_0 : ((-1) : Int32).toInt = -1 := (by decide +kernel); omega), (by show 0 ≤ x_8.toInt; have k_0 : ((-1) : Int32).toInt = -1 := (by decide +kernel); omega), (by show x_8.toInt ≤ 4; have k_0 : ((-1) : Int32).toInt = -1 := (by decide +kernel); omega), (by show x_8.toInt ≤ 4 * x_6.toInt - 4 * x_7.toInt; have k_0 : ((-1) : Int32).toInt = -1 := (by decide +kernel); omega), hi_15_11, (fun h => absurd h (by decide +kernel)), (Or.inl rfl)⟩ (Nat.le_of_ble_eq_true rfl) (Nat.le_of_ble_eq_true rfl) dX12_readSteps_105
            · skip
              have ha_344 : ¬ x_9.toInt = (41 : Int32).toInt := ha_344
              rw [show (41 : Int32).toInt = 41 from by decide +kernel] at ha_344
              refine lv_if_eq (pc := 34) (tgt := 82) E.1 E.2.1 dX12_readSteps_34 (by decide) (fun _ => ?_) (fun c_355 => absurd (meqE (a := 0) (b := 0) (by decide +kernel) (by decide +kernel) (by omega)) c_355)
              refine lv_aload_n (pc := 82) E.1 E.2.1 dX12_readSteps_82 rfl (lv_at hl18 0 rfl) ?_
              refine x_get (pc := 83) (T := TX12) (N := 70) (ci := 12) (v := .int x_13) E hw339 inX12 0 35 q_1434 rfl rfl (by decide) rfl rfl dX12_readSteps_83 ?_
              refine lv_if_ne (pc := 86) (tgt := 100) E.1 E.2.1 dX12_readSteps_86 (by decide) (fun _ => ?_) (fun c_356 => absurd c_356 (mneE (a := x_13.toInt) (b := 0) rfl (by decide +kernel) (by omega)))
              refine lv_aload_n (pc := 100) E.1 E.2.1 dX12_readSteps_100 rfl (lv_at hl18 0 rfl) ?_
              refine lv_iconst (pc := 101) (v := 1) E.1 E.2.1 dX12_readSteps_101 (by decide +kernel) ?_
              refine cm_i (pc := 102) hw339 (rn_M (As := [.int 1]) (rest := []) E hw339 (s_errs2 l D cI cJ _ M mr (upd (upd (upd (upd (upd (upd (upd (upd mi 22 x_6) 23 x_7) 24 x_8) 25 x_9) 35 x_13) 38 x_10) 39 x_11) 48 x_12) (va_up (va_up mf 46 g_14) 47 g_15) mg 1) (gdV q_1698 q_1700 q_60 q_162 q_1701) hdV_X12_errs ⟨rfl, rfl⟩ ⟨(Nat.le_of_ble_eq_true rfl), (Nat.le_of_ble_eq_true rfl)⟩ ⟨(Nat.le_of_ble_eq_true rfl), (Nat.le_of_ble_eq_true rfl)⟩ 12 rfl rfl rfl rfl hl18.1 rfl (Nat.le_of_ble_eq_true rfl) dX12_readSteps_102) (fun r_358 u_357 H1 locs hp hw359 => ?_)
              obtain ⟨nreadFault_360, nreadPlace_361⟩ := u_357
              generalize H1 = H at hw359 ⊢
              have hw362 : WD D A s.heap (MW cI cJ M mr (upd (upd (upd (upd (upd (upd (upd (upd mi 22 x_6) 23 x_7) 24 x_8) 25 x_9) 35 x_13) 38 nreadFault_360) 39 nreadPlace_361) 48 x_12) (va_up (va_up mf 46 g_14) 47 g_15) mg) H locs := hw359
              have hp_363 := hp
              rcases hp_363 with rfl
              · skip
                exact em_i (w1 := (fun (u : Int32 × Int32 × Int32 × Int32 × Int32 × Int32 × (Nat → Int32) × (Nat → Int32) × Int32 × Int32) => (MW cI cJ M mr (upd (upd (upd (upd (upd (upd (upd (upd mi 22 u.1) 23 u.2.1) 24 u.2.2.1) 25 u.2.2.2.1) 38 u.2.2.2.2.1) 39 u.2.2.2.2.2.1) 48 u.2.2.2.2.2.2.2.2.1) 35 u.2.2.2.2.2.2.2.2.2) (va_up (va_up mf 46 u.2.2.2.2.2.2.1) 47 u.2.2.2.2.2.2.2.1) mg))) E hr hlk (x_6, x_7, x_8, x_9, nreadFault_360, nreadPlace_361, g_14, g_15, x_12, x_13) hw362 ⟨(by show 0 ≤ x_7.toInt; have k_0 : ((-1) : Int32).toInt = -1 := (by decide +kernel); omega), (by show x_7.toInt ≤ x_6.toInt; have k_0 : ((-1) : Int32).toInt = -1 := (by decide +kernel); omega), (by show x_6.toInt ≤ (mi 21).toInt; have k_0 : ((-1) : Int32).toInt = -1 := (by decide +kernel); omega), (by show 0 ≤ x_8.toInt; have k_0 : ((-1) : Int32).toInt = -1 := (by decide +kernel); omega), (by show x_8.toInt ≤ 4; have k_0 : ((-1) : Int32).toInt = -1 := (by decide +kernel); omega), (by show x_8.toInt ≤ 4 * x_6.toInt - 4 * x_7.toInt; have k_0 : ((-1) : Int32).toInt = -1 := (by decide +kernel); omega), hi_15_11, (fun h => absurd h (by decide +kernel)), (Or.inl rfl)⟩ (Nat.le_of_ble_eq_true rfl) (Nat.le_of_ble_eq_true rfl) dX12_readSteps_105
      · skip
        have ha_272 : ¬ x_9.toInt = 28 := ha_272
        have ha_273 : ¬ x_9.toInt = 29 := ha_273
        refine lv_if_ne (pc := 9) (tgt := 37) E.1 E.2.1 dX12_readSteps_9 (by decide) (fun c_364 => absurd (meqE (a := 0) (b := 0) (by decide +kernel) (by decide +kernel) (by omega)) c_364) (fun _ => ?_)
        refine lv_aload_n (pc := 12) E.1 E.2.1 dX12_readSteps_12 rfl (lv_at hl18 0 rfl) ?_
        refine lv_bipush (pc := 13) (v := 30) E.1 E.2.1 dX12_readSteps_13 (by decide +kernel) ?_
        refine cm_i (pc := 15) hw265 (rn_M (As := [.int 30]) (rest := []) E hw265 (s_isWord3 l D cI cJ _ M mr (upd (upd (upd (upd (upd (upd (upd (upd mi 22 x_6) 23 x_7) 24 x_8) 25 x_9) 35 x_13) 38 x_10) 39 x_11) 48 x_12) (va_up (va_up mf 46 g_14) 47 g_15) mg 30) (gdV q_1694 q_1696 q_59 q_162 q_1697) hdV_X12_isWord ⟨rfl, rfl⟩ ⟨(Nat.le_of_ble_eq_true rfl), (Nat.le_of_ble_eq_true rfl)⟩ ⟨(Nat.le_of_ble_eq_true rfl), (Nat.le_of_ble_eq_true rfl)⟩ 12 rfl rfl rfl rfl hl18.1 rfl (Nat.le_of_ble_eq_true rfl) dX12_readSteps_15) (fun r_366 u_365 H1 locs hp hw367 => ?_)
        generalize H1 = H at hw367 ⊢
        have hw368 : WD D A s.heap (MW cI cJ M mr (upd (upd (upd (upd (upd (upd (upd (upd mi 22 x_6) 23 x_7) 24 x_8) 25 x_9) 35 x_13) 38 x_10) 39 x_11) 48 x_12) (va_up (va_up mf 46 g_14) 47 g_15) mg) H locs := hw367
        have hp_369 := hp
        rcases hp_369 with ⟨rfl, ha_370, ha_371⟩ | ⟨rfl, ha_372⟩ | ⟨rfl, ha_373⟩
        · skip
          have ha_370 : x_8.toInt = 2 := ha_370
          have ha_371 : x_9.toInt = (30 : Int32).toInt := ha_371
          rw [show (30 : Int32).toInt = 30 from by decide +kernel] at ha_371
          refine lv_if_ne (pc := 18) (tgt := 37) E.1 E.2.1 dX12_readSteps_18 (by decide) (fun _ => ?_) (fun c_374 => absurd c_374 (mneE (a := 1) (b := 0) (by decide +kernel) (by decide +kernel) (by omega)))
          exact join_19  _ _ _ ⟨(by omega), (show (x_8.toInt = 2 → x_9.toInt = 30 → x_7.toInt + 3 ≤ x_6.toInt) from hi_15_11)⟩ hw368 (lv_sub hl18 [0] rfl)
        · skip
          have ha_372 : ¬ x_8.toInt = 2 := ha_372
          refine lv_if_ne (pc := 18) (tgt := 37) E.1 E.2.1 dX12_readSteps_18 (by decide) (fun c_375 => absurd (meqE (a := 0) (b := 0) (by decide +kernel) (by decide +kernel) (by omega)) c_375) (fun _ => ?_)
          refine lv_aload_n (pc := 21) E.1 E.2.1 dX12_readSteps_21 rfl (lv_at hl18 0 rfl) ?_
          refine x_get (pc := 22) (T := TX12) (N := 70) (ci := 12) (v := .int x_13) E hw368 inX12 0 35 q_1434 rfl rfl (by decide) rfl rfl dX12_readSteps_22 ?_
          refine lv_if_le (pc := 25) (tgt := 82) E.1 E.2.1 dX12_readSteps_25 (by decide) (fun c_376 => ?_) (fun c_376 => ?_)
          · skip
            have hc_376 := leE (a := x_13.toInt) (b := 0) rfl (by decide +kernel) c_376
            refine lv_aload_n (pc := 82) E.1 E.2.1 dX12_readSteps_82 rfl (lv_at hl18 0 rfl) ?_
            refine x_get (pc := 83) (T := TX12) (N := 70) (ci := 12) (v := .int x_13) E hw368 inX12 0 35 q_1434 rfl rfl (by decide) rfl rfl dX12_readSteps_83 ?_
            refine lv_if_ne (pc := 86) (tgt := 100) E.1 E.2.1 dX12_readSteps_86 (by decide) (fun c_377 => absurd (meqE (a := x_13.toInt) (b := 0) rfl (by decide +kernel) (by omega)) c_377) (fun _ => ?_)
            refine lv_aload_n (pc := 89) E.1 E.2.1 dX12_readSteps_89 rfl (lv_at hl18 0 rfl) ?_
            refine x_get (pc := 90) (T := TX12) (N := 70) (ci := 12) (v := .int x_8) E hw368 inX12 0 24 q_1423 rfl rfl (by decide) rfl rfl dX12_readSteps_90 ?_
            refine lv_if_ne (pc := 93) (tgt := 100) E.1 E.2.1 dX12_readSteps_93 (by decide) (fun c_378 => ?_) (fun c_378 => ?_)
            · skip
              have hc_378 := neE (a := x_8.toInt) (b := 0) rfl (by decide +kernel) c_378
              refine lv_aload_n (pc := 100) E.1 E.2.1 dX12_readSteps_100 rfl (lv_at hl18 0 rfl) ?_
              refine lv_iconst (pc := 101) (v := 1) E.1 E.2.1 dX12_readSteps_101 (by decide +kernel) ?_
              refine cm_i (pc := 102) hw368 (rn_M (As := [.int 1]) (rest := []) E hw368 (s_errs2 l D cI cJ _ M mr (upd (upd (upd (upd (upd (upd (upd (upd mi 22 x_6) 23 x_7) 24 x_8) 25 x_9) 35 x_13) 38 x_10) 39 x_11) 48 x_12) (va_up (va_up mf 46 g_14) 47 g_15) mg 1) (gdV q_1698 q_1700 q_60 q_162 q_1701) hdV_X12_errs ⟨rfl, rfl⟩ ⟨(Nat.le_of_ble_eq_true rfl), (Nat.le_of_ble_eq_true rfl)⟩ ⟨(Nat.le_of_ble_eq_true rfl), (Nat.le_of_ble_eq_true rfl)⟩ 12 rfl rfl rfl rfl hl18.1 rfl (Nat.le_of_ble_eq_true rfl) dX12_readSteps_102) (fun r_380 u_379 H1 locs hp hw381 => ?_)
              obtain ⟨nreadFault_382, nreadPlace_383⟩ := u_379
              generalize H1 = H at hw381 ⊢
              have hw384 : WD D A s.heap (MW cI cJ M mr (upd (upd (upd (upd (upd (upd (upd (upd mi 22 x_6) 23 x_7) 24 x_8) 25 x_9) 35 x_13) 38 nreadFault_382) 39 nreadPlace_383) 48 x_12) (va_up (va_up mf 46 g_14) 47 g_15) mg) H locs := hw381
              have hp_385 := hp
              rcases hp_385 with rfl
              · skip
                exact em_i (w1 := (fun (u : Int32 × Int32 × Int32 × Int32 × Int32 × Int32 × (Nat → Int32) × (Nat → Int32) × Int32 × Int32) => (MW cI cJ M mr (upd (upd (upd (upd (upd (upd (upd (upd mi 22 u.1) 23 u.2.1) 24 u.2.2.1) 25 u.2.2.2.1) 38 u.2.2.2.2.1) 39 u.2.2.2.2.2.1) 48 u.2.2.2.2.2.2.2.2.1) 35 u.2.2.2.2.2.2.2.2.2) (va_up (va_up mf 46 u.2.2.2.2.2.2.1) 47 u.2.2.2.2.2.2.2.1) mg))) E hr hlk (x_6, x_7, x_8, x_9, nreadFault_382, nreadPlace_383, g_14, g_15, x_12, x_13) hw384 ⟨(by show 0 ≤ x_7.toInt; have k_0 : ((-1) : Int32).toInt = -1 := (by decide +kernel); omega), (by show x_7.toInt ≤ x_6.toInt; have k_0 : ((-1) : Int32).toInt = -1 := (by decide +kernel); omega), (by show x_6.toInt ≤ (mi 21).toInt; have k_0 : ((-1) : Int32).toInt = -1 := (by decide +kernel); omega), (by show 0 ≤ x_8.toInt; have k_0 : ((-1) : Int32).toInt = -1 := (by decide +kernel); omega), (by show x_8.toInt ≤ 4; have k_0 : ((-1) : Int32).toInt = -1 := (by decide +kernel); omega), (by show x_8.toInt ≤ 4 * x_6.toInt - 4 * x_7.toInt; have k_0 : ((-1) : Int32).toInt = -1 := (by decide +kernel); omega), hi_15_11, (fun h => absurd h (by decide +kernel)), (Or.inl rfl)⟩ (Nat.le_of_ble_eq_true rfl) (Nat.le_of_ble_eq_true rfl) dX12_readSteps_105
            · skip
              have hc_378 := eqE (a := x_8.toInt) (b := 0) rfl (by decide +kernel) c_378
              refine lv_iconst (pc := 96) (v := 0) E.1 E.2.1 dX12_readSteps_96 (by decide +kernel) ?_
              refine lv_goto (pc := 97) (tgt := 105) E.1 E.2.1 dX12_readSteps_97 (by decide) ?_
              exact em_i (w1 := (fun (u : Int32 × Int32 × Int32 × Int32 × Int32 × Int32 × (Nat → Int32) × (Nat → Int32) × Int32 × Int32) => (MW cI cJ M mr (upd (upd (upd (upd (upd (upd (upd (upd mi 22 u.1) 23 u.2.1) 24 u.2.2.1) 25 u.2.2.2.1) 38 u.2.2.2.2.1) 39 u.2.2.2.2.2.1) 48 u.2.2.2.2.2.2.2.2.1) 35 u.2.2.2.2.2.2.2.2.2) (va_up (va_up mf 46 u.2.2.2.2.2.2.1) 47 u.2.2.2.2.2.2.2.1) mg))) E hr hlk (x_6, x_7, x_8, x_9, x_10, x_11, g_14, g_15, x_12, x_13) hw368 ⟨(by show 0 ≤ x_7.toInt; have k_0 : (0 : Int32).toInt = 0 := (by decide +kernel); omega), (by show x_7.toInt ≤ x_6.toInt; have k_0 : (0 : Int32).toInt = 0 := (by decide +kernel); omega), (by show x_6.toInt ≤ (mi 21).toInt; have k_0 : (0 : Int32).toInt = 0 := (by decide +kernel); omega), (by show 0 ≤ x_8.toInt; have k_0 : (0 : Int32).toInt = 0 := (by decide +kernel); omega), (by show x_8.toInt ≤ 4; have k_0 : (0 : Int32).toInt = 0 := (by decide +kernel); omega), (by show x_8.toInt ≤ 4 * x_6.toInt - 4 * x_7.toInt; have k_0 : (0 : Int32).toInt = 0 := (by decide +kernel); omega), hi_15_11, (fun _ => (show (∃ t : Nat, RSP g_14 g_15 (mi 6).toInt ((x_12.toInt).toNat) t) from ⟨_, hi_15_10⟩)), (Or.inr (⟨rfl, (by show 0 ≤ x_12.toInt; omega), (by show x_12.toInt ≤ 140; omega)⟩))⟩ (Nat.le_of_ble_eq_true rfl) (Nat.le_of_ble_eq_true rfl) dX12_readSteps_105
          · skip
            have hc_376 := nleE (a := x_13.toInt) (b := 0) rfl (by decide +kernel) c_376
            refine lv_aload_n (pc := 28) E.1 E.2.1 dX12_readSteps_28 rfl (lv_at hl18 0 rfl) ?_
            refine lv_bipush (pc := 29) (v := 41) E.1 E.2.1 dX12_readSteps_29 (by decide +kernel) ?_
            refine cm_i (pc := 31) hw368 (rn_M (As := [.int 41]) (rest := []) E hw368 (s_isSign3 l D cI cJ _ M mr (upd (upd (upd (upd (upd (upd (upd (upd mi 22 x_6) 23 x_7) 24 x_8) 25 x_9) 35 x_13) 38 x_10) 39 x_11) 48 x_12) (va_up (va_up mf 46 g_14) 47 g_15) mg 41) (gdV q_1718 q_1720 q_65 q_162 q_1721) hdV_X12_isSign ⟨rfl, rfl⟩ ⟨(Nat.le_of_ble_eq_true rfl), (Nat.le_of_ble_eq_true rfl)⟩ ⟨(Nat.le_of_ble_eq_true rfl), (Nat.le_of_ble_eq_true rfl)⟩ 12 rfl rfl rfl rfl hl18.1 rfl (Nat.le_of_ble_eq_true rfl) dX12_readSteps_31) (fun r_387 u_386 H1 locs hp hw388 => ?_)
            generalize H1 = H at hw388 ⊢
            have hw389 : WD D A s.heap (MW cI cJ M mr (upd (upd (upd (upd (upd (upd (upd (upd mi 22 x_6) 23 x_7) 24 x_8) 25 x_9) 35 x_13) 38 x_10) 39 x_11) 48 x_12) (va_up (va_up mf 46 g_14) 47 g_15) mg) H locs := hw388
            have hp_390 := hp
            rcases hp_390 with ⟨rfl, ha_391, ha_392⟩ | ⟨rfl, ha_393⟩ | ⟨rfl, ha_394⟩
            · skip
              have ha_391 : x_8.toInt = 4 := ha_391
              have ha_392 : x_9.toInt = (41 : Int32).toInt := ha_392
              rw [show (41 : Int32).toInt = 41 from by decide +kernel] at ha_392
              refine lv_if_eq (pc := 34) (tgt := 82) E.1 E.2.1 dX12_readSteps_34 (by decide) (fun c_395 => absurd c_395 (mneE (a := 1) (b := 0) (by decide +kernel) (by decide +kernel) (by omega))) (fun _ => ?_)
              exact join_19  _ _ _ ⟨(by omega), (show (x_8.toInt = 2 → x_9.toInt = 30 → x_7.toInt + 3 ≤ x_6.toInt) from hi_15_11)⟩ hw389 (lv_sub hl18 [0] rfl)
            · skip
              have ha_393 : ¬ x_8.toInt = 4 := ha_393
              refine lv_if_eq (pc := 34) (tgt := 82) E.1 E.2.1 dX12_readSteps_34 (by decide) (fun _ => ?_) (fun c_396 => absurd (meqE (a := 0) (b := 0) (by decide +kernel) (by decide +kernel) (by omega)) c_396)
              refine lv_aload_n (pc := 82) E.1 E.2.1 dX12_readSteps_82 rfl (lv_at hl18 0 rfl) ?_
              refine x_get (pc := 83) (T := TX12) (N := 70) (ci := 12) (v := .int x_13) E hw389 inX12 0 35 q_1434 rfl rfl (by decide) rfl rfl dX12_readSteps_83 ?_
              refine lv_if_ne (pc := 86) (tgt := 100) E.1 E.2.1 dX12_readSteps_86 (by decide) (fun _ => ?_) (fun c_397 => absurd c_397 (mneE (a := x_13.toInt) (b := 0) rfl (by decide +kernel) (by omega)))
              refine lv_aload_n (pc := 100) E.1 E.2.1 dX12_readSteps_100 rfl (lv_at hl18 0 rfl) ?_
              refine lv_iconst (pc := 101) (v := 1) E.1 E.2.1 dX12_readSteps_101 (by decide +kernel) ?_
              refine cm_i (pc := 102) hw389 (rn_M (As := [.int 1]) (rest := []) E hw389 (s_errs2 l D cI cJ _ M mr (upd (upd (upd (upd (upd (upd (upd (upd mi 22 x_6) 23 x_7) 24 x_8) 25 x_9) 35 x_13) 38 x_10) 39 x_11) 48 x_12) (va_up (va_up mf 46 g_14) 47 g_15) mg 1) (gdV q_1698 q_1700 q_60 q_162 q_1701) hdV_X12_errs ⟨rfl, rfl⟩ ⟨(Nat.le_of_ble_eq_true rfl), (Nat.le_of_ble_eq_true rfl)⟩ ⟨(Nat.le_of_ble_eq_true rfl), (Nat.le_of_ble_eq_true rfl)⟩ 12 rfl rfl rfl rfl hl18.1 rfl (Nat.le_of_ble_eq_true rfl) dX12_readSteps_102) (fun r_399 u_398 H1 locs hp hw400 => ?_)
              obtain ⟨nreadFault_401, nreadPlace_402⟩ := u_398
              generalize H1 = H at hw400 ⊢
              have hw403 : WD D A s.heap (MW cI cJ M mr (upd (upd (upd (upd (upd (upd (upd (upd mi 22 x_6) 23 x_7) 24 x_8) 25 x_9) 35 x_13) 38 nreadFault_401) 39 nreadPlace_402) 48 x_12) (va_up (va_up mf 46 g_14) 47 g_15) mg) H locs := hw400
              have hp_404 := hp
              rcases hp_404 with rfl
              · skip
                exact em_i (w1 := (fun (u : Int32 × Int32 × Int32 × Int32 × Int32 × Int32 × (Nat → Int32) × (Nat → Int32) × Int32 × Int32) => (MW cI cJ M mr (upd (upd (upd (upd (upd (upd (upd (upd mi 22 u.1) 23 u.2.1) 24 u.2.2.1) 25 u.2.2.2.1) 38 u.2.2.2.2.1) 39 u.2.2.2.2.2.1) 48 u.2.2.2.2.2.2.2.2.1) 35 u.2.2.2.2.2.2.2.2.2) (va_up (va_up mf 46 u.2.2.2.2.2.2.1) 47 u.2.2.2.2.2.2.2.1) mg))) E hr hlk (x_6, x_7, x_8, x_9, nreadFault_401, nreadPlace_402, g_14, g_15, x_12, x_13) hw403 ⟨(by show 0 ≤ x_7.toInt; have k_0 : ((-1) : Int32).toInt = -1 := (by decide +kernel); omega), (by show x_7.toInt ≤ x_6.toInt; have k_0 : ((-1) : Int32).toInt = -1 := (by decide +kernel); omega), (by show x_6.toInt ≤ (mi 21).toInt; have k_0 : ((-1) : Int32).toInt = -1 := (by decide +kernel); omega), (by show 0 ≤ x_8.toInt; have k_0 : ((-1) : Int32).toInt = -1 := (by decide +kernel); omega), (by show x_8.toInt ≤ 4; have k_0 : ((-1) : Int32).toInt = -1 := (by decide +kernel); omega), (by show x_8.toInt ≤ 4 * x_6.toInt - 4 * x_7.toInt; have k_0 : ((-1) : Int32).toInt = -1 := (by decide +kernel); omega), hi_15_11, (fun h => absurd h (by decide +kernel)), (Or.inl rfl)⟩ (Nat.le_of_ble_eq_true rfl) (Nat.le_of_ble_eq_true rfl) dX12_readSteps_105
            · skip
              have ha_394 : ¬ x_9.toInt = (41 : Int32).toInt := ha_394
              rw [show (41 : Int32).toInt = 41 from by decide +kernel] at ha_394
              refine lv_if_eq (pc := 34) (tgt := 82) E.1 E.2.1 dX12_readSteps_34 (by decide) (fun _ => ?_) (fun c_405 => absurd (meqE (a := 0) (b := 0) (by decide +kernel) (by decide +kernel) (by omega)) c_405)
              refine lv_aload_n (pc := 82) E.1 E.2.1 dX12_readSteps_82 rfl (lv_at hl18 0 rfl) ?_
              refine x_get (pc := 83) (T := TX12) (N := 70) (ci := 12) (v := .int x_13) E hw389 inX12 0 35 q_1434 rfl rfl (by decide) rfl rfl dX12_readSteps_83 ?_
              refine lv_if_ne (pc := 86) (tgt := 100) E.1 E.2.1 dX12_readSteps_86 (by decide) (fun _ => ?_) (fun c_406 => absurd c_406 (mneE (a := x_13.toInt) (b := 0) rfl (by decide +kernel) (by omega)))
              refine lv_aload_n (pc := 100) E.1 E.2.1 dX12_readSteps_100 rfl (lv_at hl18 0 rfl) ?_
              refine lv_iconst (pc := 101) (v := 1) E.1 E.2.1 dX12_readSteps_101 (by decide +kernel) ?_
              refine cm_i (pc := 102) hw389 (rn_M (As := [.int 1]) (rest := []) E hw389 (s_errs2 l D cI cJ _ M mr (upd (upd (upd (upd (upd (upd (upd (upd mi 22 x_6) 23 x_7) 24 x_8) 25 x_9) 35 x_13) 38 x_10) 39 x_11) 48 x_12) (va_up (va_up mf 46 g_14) 47 g_15) mg 1) (gdV q_1698 q_1700 q_60 q_162 q_1701) hdV_X12_errs ⟨rfl, rfl⟩ ⟨(Nat.le_of_ble_eq_true rfl), (Nat.le_of_ble_eq_true rfl)⟩ ⟨(Nat.le_of_ble_eq_true rfl), (Nat.le_of_ble_eq_true rfl)⟩ 12 rfl rfl rfl rfl hl18.1 rfl (Nat.le_of_ble_eq_true rfl) dX12_readSteps_102) (fun r_408 u_407 H1 locs hp hw409 => ?_)
              obtain ⟨nreadFault_410, nreadPlace_411⟩ := u_407
              generalize H1 = H at hw409 ⊢
              have hw412 : WD D A s.heap (MW cI cJ M mr (upd (upd (upd (upd (upd (upd (upd (upd mi 22 x_6) 23 x_7) 24 x_8) 25 x_9) 35 x_13) 38 nreadFault_410) 39 nreadPlace_411) 48 x_12) (va_up (va_up mf 46 g_14) 47 g_15) mg) H locs := hw409
              have hp_413 := hp
              rcases hp_413 with rfl
              · skip
                exact em_i (w1 := (fun (u : Int32 × Int32 × Int32 × Int32 × Int32 × Int32 × (Nat → Int32) × (Nat → Int32) × Int32 × Int32) => (MW cI cJ M mr (upd (upd (upd (upd (upd (upd (upd (upd mi 22 u.1) 23 u.2.1) 24 u.2.2.1) 25 u.2.2.2.1) 38 u.2.2.2.2.1) 39 u.2.2.2.2.2.1) 48 u.2.2.2.2.2.2.2.2.1) 35 u.2.2.2.2.2.2.2.2.2) (va_up (va_up mf 46 u.2.2.2.2.2.2.1) 47 u.2.2.2.2.2.2.2.1) mg))) E hr hlk (x_6, x_7, x_8, x_9, nreadFault_410, nreadPlace_411, g_14, g_15, x_12, x_13) hw412 ⟨(by show 0 ≤ x_7.toInt; have k_0 : ((-1) : Int32).toInt = -1 := (by decide +kernel); omega), (by show x_7.toInt ≤ x_6.toInt; have k_0 : ((-1) : Int32).toInt = -1 := (by decide +kernel); omega), (by show x_6.toInt ≤ (mi 21).toInt; have k_0 : ((-1) : Int32).toInt = -1 := (by decide +kernel); omega), (by show 0 ≤ x_8.toInt; have k_0 : ((-1) : Int32).toInt = -1 := (by decide +kernel); omega), (by show x_8.toInt ≤ 4; have k_0 : ((-1) : Int32).toInt = -1 := (by decide +kernel); omega), (by show x_8.toInt ≤ 4 * x_6.toInt - 4 * x_7.toInt; have k_0 : ((-1) : Int32).toInt = -1 := (by decide +kernel); omega), hi_15_11, (fun h => absurd h (by decide +kernel)), (Or.inl rfl)⟩ (Nat.le_of_ble_eq_true rfl) (Nat.le_of_ble_eq_true rfl) dX12_readSteps_105
        · skip
          have ha_373 : ¬ x_9.toInt = (30 : Int32).toInt := ha_373
          rw [show (30 : Int32).toInt = 30 from by decide +kernel] at ha_373
          refine lv_if_ne (pc := 18) (tgt := 37) E.1 E.2.1 dX12_readSteps_18 (by decide) (fun c_414 => absurd (meqE (a := 0) (b := 0) (by decide +kernel) (by decide +kernel) (by omega)) c_414) (fun _ => ?_)
          refine lv_aload_n (pc := 21) E.1 E.2.1 dX12_readSteps_21 rfl (lv_at hl18 0 rfl) ?_
          refine x_get (pc := 22) (T := TX12) (N := 70) (ci := 12) (v := .int x_13) E hw368 inX12 0 35 q_1434 rfl rfl (by decide) rfl rfl dX12_readSteps_22 ?_
          refine lv_if_le (pc := 25) (tgt := 82) E.1 E.2.1 dX12_readSteps_25 (by decide) (fun c_415 => ?_) (fun c_415 => ?_)
          · skip
            have hc_415 := leE (a := x_13.toInt) (b := 0) rfl (by decide +kernel) c_415
            refine lv_aload_n (pc := 82) E.1 E.2.1 dX12_readSteps_82 rfl (lv_at hl18 0 rfl) ?_
            refine x_get (pc := 83) (T := TX12) (N := 70) (ci := 12) (v := .int x_13) E hw368 inX12 0 35 q_1434 rfl rfl (by decide) rfl rfl dX12_readSteps_83 ?_
            refine lv_if_ne (pc := 86) (tgt := 100) E.1 E.2.1 dX12_readSteps_86 (by decide) (fun c_416 => absurd (meqE (a := x_13.toInt) (b := 0) rfl (by decide +kernel) (by omega)) c_416) (fun _ => ?_)
            refine lv_aload_n (pc := 89) E.1 E.2.1 dX12_readSteps_89 rfl (lv_at hl18 0 rfl) ?_
            refine x_get (pc := 90) (T := TX12) (N := 70) (ci := 12) (v := .int x_8) E hw368 inX12 0 24 q_1423 rfl rfl (by decide) rfl rfl dX12_readSteps_90 ?_
            refine lv_if_ne (pc := 93) (tgt := 100) E.1 E.2.1 dX12_readSteps_93 (by decide) (fun c_417 => ?_) (fun c_417 => ?_)
            · skip
              have hc_417 := neE (a := x_8.toInt) (b := 0) rfl (by decide +kernel) c_417
              refine lv_aload_n (pc := 100) E.1 E.2.1 dX12_readSteps_100 rfl (lv_at hl18 0 rfl) ?_
              refine lv_iconst (pc := 101) (v := 1) E.1 E.2.1 dX12_readSteps_101 (by decide +kernel) ?_
              refine cm_i (pc := 102) hw368 (rn_M (As := [.int 1]) (rest := []) E hw368 (s_errs2 l D cI cJ _ M mr (upd (upd (upd (upd (upd (upd (upd (upd mi 22 x_6) 23 x_7) 24 x_8) 25 x_9) 35 x_13) 38 x_10) 39 x_11) 48 x_12) (va_up (va_up mf 46 g_14) 47 g_15) mg 1) (gdV q_1698 q_1700 q_60 q_162 q_1701) hdV_X12_errs ⟨rfl, rfl⟩ ⟨(Nat.le_of_ble_eq_true rfl), (Nat.le_of_ble_eq_true rfl)⟩ ⟨(Nat.le_of_ble_eq_true rfl), (Nat.le_of_ble_eq_true rfl)⟩ 12 rfl rfl rfl rfl hl18.1 rfl (Nat.le_of_ble_eq_true rfl) dX12_readSteps_102) (fun r_419 u_418 H1 locs hp hw420 => ?_)
              obtain ⟨nreadFault_421, nreadPlace_422⟩ := u_418
              generalize H1 = H at hw420 ⊢
              have hw423 : WD D A s.heap (MW cI cJ M mr (upd (upd (upd (upd (upd (upd (upd (upd mi 22 x_6) 23 x_7) 24 x_8) 25 x_9) 35 x_13) 38 nreadFault_421) 39 nreadPlace_422) 48 x_12) (va_up (va_up mf 46 g_14) 47 g_15) mg) H locs := hw420
              have hp_424 := hp
              rcases hp_424 with rfl
              · skip
                exact em_i (w1 := (fun (u : Int32 × Int32 × Int32 × Int32 × Int32 × Int32 × (Nat → Int32) × (Nat → Int32) × Int32 × Int32) => (MW cI cJ M mr (upd (upd (upd (upd (upd (upd (upd (upd mi 22 u.1) 23 u.2.1) 24 u.2.2.1) 25 u.2.2.2.1) 38 u.2.2.2.2.1) 39 u.2.2.2.2.2.1) 48 u.2.2.2.2.2.2.2.2.1) 35 u.2.2.2.2.2.2.2.2.2) (va_up (va_up mf 46 u.2.2.2.2.2.2.1) 47 u.2.2.2.2.2.2.2.1) mg))) E hr hlk (x_6, x_7, x_8, x_9, nreadFault_421, nreadPlace_422, g_14, g_15, x_12, x_13) hw423 ⟨(by show 0 ≤ x_7.toInt; have k_0 : ((-1) : Int32).toInt = -1 := (by decide +kernel); omega), (by show x_7.toInt ≤ x_6.toInt; have k_0 : ((-1) : Int32).toInt = -1 := (by decide +kernel); omega), (by show x_6.toInt ≤ (mi 21).toInt; have k_0 : ((-1) : Int32).toInt = -1 := (by decide +kernel); omega), (by show 0 ≤ x_8.toInt; have k_0 : ((-1) : Int32).toInt = -1 := (by decide +kernel); omega), (by show x_8.toInt ≤ 4; have k_0 : ((-1) : Int32).toInt = -1 := (by decide +kernel); omega), (by show x_8.toInt ≤ 4 * x_6.toInt - 4 * x_7.toInt; have k_0 : ((-1) : Int32).toInt = -1 := (by decide +kernel); omega), hi_15_11, (fun h => absurd h (by decide +kernel)), (Or.inl rfl)⟩ (Nat.le_of_ble_eq_true rfl) (Nat.le_of_ble_eq_true rfl) dX12_readSteps_105
            · skip
              have hc_417 := eqE (a := x_8.toInt) (b := 0) rfl (by decide +kernel) c_417
              refine lv_iconst (pc := 96) (v := 0) E.1 E.2.1 dX12_readSteps_96 (by decide +kernel) ?_
              refine lv_goto (pc := 97) (tgt := 105) E.1 E.2.1 dX12_readSteps_97 (by decide) ?_
              exact em_i (w1 := (fun (u : Int32 × Int32 × Int32 × Int32 × Int32 × Int32 × (Nat → Int32) × (Nat → Int32) × Int32 × Int32) => (MW cI cJ M mr (upd (upd (upd (upd (upd (upd (upd (upd mi 22 u.1) 23 u.2.1) 24 u.2.2.1) 25 u.2.2.2.1) 38 u.2.2.2.2.1) 39 u.2.2.2.2.2.1) 48 u.2.2.2.2.2.2.2.2.1) 35 u.2.2.2.2.2.2.2.2.2) (va_up (va_up mf 46 u.2.2.2.2.2.2.1) 47 u.2.2.2.2.2.2.2.1) mg))) E hr hlk (x_6, x_7, x_8, x_9, x_10, x_11, g_14, g_15, x_12, x_13) hw368 ⟨(by show 0 ≤ x_7.toInt; have k_0 : (0 : Int32).toInt = 0 := (by decide +kernel); omega), (by show x_7.toInt ≤ x_6.toInt; have k_0 : (0 : Int32).toInt = 0 := (by decide +kernel); omega), (by show x_6.toInt ≤ (mi 21).toInt; have k_0 : (0 : Int32).toInt = 0 := (by decide +kernel); omega), (by show 0 ≤ x_8.toInt; have k_0 : (0 : Int32).toInt = 0 := (by decide +kernel); omega), (by show x_8.toInt ≤ 4; have k_0 : (0 : Int32).toInt = 0 := (by decide +kernel); omega), (by show x_8.toInt ≤ 4 * x_6.toInt - 4 * x_7.toInt; have k_0 : (0 : Int32).toInt = 0 := (by decide +kernel); omega), hi_15_11, (fun _ => (show (∃ t : Nat, RSP g_14 g_15 (mi 6).toInt ((x_12.toInt).toNat) t) from ⟨_, hi_15_10⟩)), (Or.inr (⟨rfl, (by show 0 ≤ x_12.toInt; omega), (by show x_12.toInt ≤ 140; omega)⟩))⟩ (Nat.le_of_ble_eq_true rfl) (Nat.le_of_ble_eq_true rfl) dX12_readSteps_105
          · skip
            have hc_415 := nleE (a := x_13.toInt) (b := 0) rfl (by decide +kernel) c_415
            refine lv_aload_n (pc := 28) E.1 E.2.1 dX12_readSteps_28 rfl (lv_at hl18 0 rfl) ?_
            refine lv_bipush (pc := 29) (v := 41) E.1 E.2.1 dX12_readSteps_29 (by decide +kernel) ?_
            refine cm_i (pc := 31) hw368 (rn_M (As := [.int 41]) (rest := []) E hw368 (s_isSign3 l D cI cJ _ M mr (upd (upd (upd (upd (upd (upd (upd (upd mi 22 x_6) 23 x_7) 24 x_8) 25 x_9) 35 x_13) 38 x_10) 39 x_11) 48 x_12) (va_up (va_up mf 46 g_14) 47 g_15) mg 41) (gdV q_1718 q_1720 q_65 q_162 q_1721) hdV_X12_isSign ⟨rfl, rfl⟩ ⟨(Nat.le_of_ble_eq_true rfl), (Nat.le_of_ble_eq_true rfl)⟩ ⟨(Nat.le_of_ble_eq_true rfl), (Nat.le_of_ble_eq_true rfl)⟩ 12 rfl rfl rfl rfl hl18.1 rfl (Nat.le_of_ble_eq_true rfl) dX12_readSteps_31) (fun r_426 u_425 H1 locs hp hw427 => ?_)
            generalize H1 = H at hw427 ⊢
            have hw428 : WD D A s.heap (MW cI cJ M mr (upd (upd (upd (upd (upd (upd (upd (upd mi 22 x_6) 23 x_7) 24 x_8) 25 x_9) 35 x_13) 38 x_10) 39 x_11) 48 x_12) (va_up (va_up mf 46 g_14) 47 g_15) mg) H locs := hw427
            have hp_429 := hp
            rcases hp_429 with ⟨rfl, ha_430, ha_431⟩ | ⟨rfl, ha_432⟩ | ⟨rfl, ha_433⟩
            · skip
              have ha_430 : x_8.toInt = 4 := ha_430
              have ha_431 : x_9.toInt = (41 : Int32).toInt := ha_431
              rw [show (41 : Int32).toInt = 41 from by decide +kernel] at ha_431
              refine lv_if_eq (pc := 34) (tgt := 82) E.1 E.2.1 dX12_readSteps_34 (by decide) (fun c_434 => absurd c_434 (mneE (a := 1) (b := 0) (by decide +kernel) (by decide +kernel) (by omega))) (fun _ => ?_)
              exact join_19  _ _ _ ⟨(by omega), (show (x_8.toInt = 2 → x_9.toInt = 30 → x_7.toInt + 3 ≤ x_6.toInt) from hi_15_11)⟩ hw428 (lv_sub hl18 [0] rfl)
            · skip
              have ha_432 : ¬ x_8.toInt = 4 := ha_432
              refine lv_if_eq (pc := 34) (tgt := 82) E.1 E.2.1 dX12_readSteps_34 (by decide) (fun _ => ?_) (fun c_435 => absurd (meqE (a := 0) (b := 0) (by decide +kernel) (by decide +kernel) (by omega)) c_435)
              refine lv_aload_n (pc := 82) E.1 E.2.1 dX12_readSteps_82 rfl (lv_at hl18 0 rfl) ?_
              refine x_get (pc := 83) (T := TX12) (N := 70) (ci := 12) (v := .int x_13) E hw428 inX12 0 35 q_1434 rfl rfl (by decide) rfl rfl dX12_readSteps_83 ?_
              refine lv_if_ne (pc := 86) (tgt := 100) E.1 E.2.1 dX12_readSteps_86 (by decide) (fun _ => ?_) (fun c_436 => absurd c_436 (mneE (a := x_13.toInt) (b := 0) rfl (by decide +kernel) (by omega)))
              refine lv_aload_n (pc := 100) E.1 E.2.1 dX12_readSteps_100 rfl (lv_at hl18 0 rfl) ?_
              refine lv_iconst (pc := 101) (v := 1) E.1 E.2.1 dX12_readSteps_101 (by decide +kernel) ?_
              refine cm_i (pc := 102) hw428 (rn_M (As := [.int 1]) (rest := []) E hw428 (s_errs2 l D cI cJ _ M mr (upd (upd (upd (upd (upd (upd (upd (upd mi 22 x_6) 23 x_7) 24 x_8) 25 x_9) 35 x_13) 38 x_10) 39 x_11) 48 x_12) (va_up (va_up mf 46 g_14) 47 g_15) mg 1) (gdV q_1698 q_1700 q_60 q_162 q_1701) hdV_X12_errs ⟨rfl, rfl⟩ ⟨(Nat.le_of_ble_eq_true rfl), (Nat.le_of_ble_eq_true rfl)⟩ ⟨(Nat.le_of_ble_eq_true rfl), (Nat.le_of_ble_eq_true rfl)⟩ 12 rfl rfl rfl rfl hl18.1 rfl (Nat.le_of_ble_eq_true rfl) dX12_readSteps_102) (fun r_438 u_437 H1 locs hp hw439 => ?_)
              obtain ⟨nreadFault_440, nreadPlace_441⟩ := u_437
              generalize H1 = H at hw439 ⊢
              have hw442 : WD D A s.heap (MW cI cJ M mr (upd (upd (upd (upd (upd (upd (upd (upd mi 22 x_6) 23 x_7) 24 x_8) 25 x_9) 35 x_13) 38 nreadFault_440) 39 nreadPlace_441) 48 x_12) (va_up (va_up mf 46 g_14) 47 g_15) mg) H locs := hw439
              have hp_443 := hp
              rcases hp_443 with rfl
              · skip
                exact em_i (w1 := (fun (u : Int32 × Int32 × Int32 × Int32 × Int32 × Int32 × (Nat → Int32) × (Nat → Int32) × Int32 × Int32) => (MW cI cJ M mr (upd (upd (upd (upd (upd (upd (upd (upd mi 22 u.1) 23 u.2.1) 24 u.2.2.1) 25 u.2.2.2.1) 38 u.2.2.2.2.1) 39 u.2.2.2.2.2.1) 48 u.2.2.2.2.2.2.2.2.1) 35 u.2.2.2.2.2.2.2.2.2) (va_up (va_up mf 46 u.2.2.2.2.2.2.1) 47 u.2.2.2.2.2.2.2.1) mg))) E hr hlk (x_6, x_7, x_8, x_9, nreadFault_440, nreadPlace_441, g_14, g_15, x_12, x_13) hw442 ⟨(by show 0 ≤ x_7.toInt; have k_0 : ((-1) : Int32).toInt = -1 := (by decide +kernel); omega), (by show x_7.toInt ≤ x_6.toInt; have k_0 : ((-1) : Int32).toInt = -1 := (by decide +kernel); omega), (by show x_6.toInt ≤ (mi 21).toInt; have k_0 : ((-1) : Int32).toInt = -1 := (by decide +kernel); omega), (by show 0 ≤ x_8.toInt; have k_0 : ((-1) : Int32).toInt = -1 := (by decide +kernel); omega), (by show x_8.toInt ≤ 4; have k_0 : ((-1) : Int32).toInt = -1 := (by decide +kernel); omega), (by show x_8.toInt ≤ 4 * x_6.toInt - 4 * x_7.toInt; have k_0 : ((-1) : Int32).toInt = -1 := (by decide +kernel); omega), hi_15_11, (fun h => absurd h (by decide +kernel)), (Or.inl rfl)⟩ (Nat.le_of_ble_eq_true rfl) (Nat.le_of_ble_eq_true rfl) dX12_readSteps_105
            · skip
              have ha_433 : ¬ x_9.toInt = (41 : Int32).toInt := ha_433
              rw [show (41 : Int32).toInt = 41 from by decide +kernel] at ha_433
              refine lv_if_eq (pc := 34) (tgt := 82) E.1 E.2.1 dX12_readSteps_34 (by decide) (fun _ => ?_) (fun c_444 => absurd (meqE (a := 0) (b := 0) (by decide +kernel) (by decide +kernel) (by omega)) c_444)
              refine lv_aload_n (pc := 82) E.1 E.2.1 dX12_readSteps_82 rfl (lv_at hl18 0 rfl) ?_
              refine x_get (pc := 83) (T := TX12) (N := 70) (ci := 12) (v := .int x_13) E hw428 inX12 0 35 q_1434 rfl rfl (by decide) rfl rfl dX12_readSteps_83 ?_
              refine lv_if_ne (pc := 86) (tgt := 100) E.1 E.2.1 dX12_readSteps_86 (by decide) (fun _ => ?_) (fun c_445 => absurd c_445 (mneE (a := x_13.toInt) (b := 0) rfl (by decide +kernel) (by omega)))
              refine lv_aload_n (pc := 100) E.1 E.2.1 dX12_readSteps_100 rfl (lv_at hl18 0 rfl) ?_
              refine lv_iconst (pc := 101) (v := 1) E.1 E.2.1 dX12_readSteps_101 (by decide +kernel) ?_
              refine cm_i (pc := 102) hw428 (rn_M (As := [.int 1]) (rest := []) E hw428 (s_errs2 l D cI cJ _ M mr (upd (upd (upd (upd (upd (upd (upd (upd mi 22 x_6) 23 x_7) 24 x_8) 25 x_9) 35 x_13) 38 x_10) 39 x_11) 48 x_12) (va_up (va_up mf 46 g_14) 47 g_15) mg 1) (gdV q_1698 q_1700 q_60 q_162 q_1701) hdV_X12_errs ⟨rfl, rfl⟩ ⟨(Nat.le_of_ble_eq_true rfl), (Nat.le_of_ble_eq_true rfl)⟩ ⟨(Nat.le_of_ble_eq_true rfl), (Nat.le_of_ble_eq_true rfl)⟩ 12 rfl rfl rfl rfl hl18.1 rfl (Nat.le_of_ble_eq_true rfl) dX12_readSteps_102) (fun r_447 u_446 H1 locs hp hw448 => ?_)
              obtain ⟨nreadFault_449, nreadPlace_450⟩ := u_446
              generalize H1 = H at hw448 ⊢
              have hw451 : WD D A s.heap (MW cI cJ M mr (upd (upd (upd (upd (upd (upd (upd (upd mi 22 x_6) 23 x_7) 24 x_8) 25 x_9) 35 x_13) 38 nreadFault_449) 39 nreadPlace_450) 48 x_12) (va_up (va_up mf 46 g_14) 47 g_15) mg) H locs := hw448
              have hp_452 := hp
              rcases hp_452 with rfl
              · skip
                exact em_i (w1 := (fun (u : Int32 × Int32 × Int32 × Int32 × Int32 × Int32 × (Nat → Int32) × (Nat → Int32) × Int32 × Int32) => (MW cI cJ M mr (upd (upd (upd (upd (upd (upd (upd (upd mi 22 u.1) 23 u.2.1) 24 u.2.2.1) 25 u.2.2.2.1) 38 u.2.2.2.2.1) 39 u.2.2.2.2.2.1) 48 u.2.2.2.2.2.2.2.2.1) 35 u.2.2.2.2.2.2.2.2.2) (va_up (va_up mf 46 u.2.2.2.2.2.2.1) 47 u.2.2.2.2.2.2.2.1) mg))) E hr hlk (x_6, x_7, x_8, x_9, nreadFault_449, nreadPlace_450, g_14, g_15, x_12, x_13) hw451 ⟨(by show 0 ≤ x_7.toInt; have k_0 : ((-1) : Int32).toInt = -1 := (by decide +kernel); omega), (by show x_7.toInt ≤ x_6.toInt; have k_0 : ((-1) : Int32).toInt = -1 := (by decide +kernel); omega), (by show x_6.toInt ≤ (mi 21).toInt; have k_0 : ((-1) : Int32).toInt = -1 := (by decide +kernel); omega), (by show 0 ≤ x_8.toInt; have k_0 : ((-1) : Int32).toInt = -1 := (by decide +kernel); omega), (by show x_8.toInt ≤ 4; have k_0 : ((-1) : Int32).toInt = -1 := (by decide +kernel); omega), (by show x_8.toInt ≤ 4 * x_6.toInt - 4 * x_7.toInt; have k_0 : ((-1) : Int32).toInt = -1 := (by decide +kernel); omega), hi_15_11, (fun h => absurd h (by decide +kernel)), (Or.inl rfl)⟩ (Nat.le_of_ble_eq_true rfl) (Nat.le_of_ble_eq_true rfl) dX12_readSteps_105
  exact loop_5 (Int.toNat ((mi 21).toInt - (mi 23).toInt) + 1) (mi 22) (mi 23) (mi 24) (mi 25) (mi 38) (mi 39) 0 (mi 35) (mf 46) (mf 47) _ _ _ ⟨(by show 0 ≤ (mi 23).toInt; omega), (by show (mi 23).toInt ≤ (mi 22).toInt; omega), (by show (mi 22).toInt ≤ (mi 21).toInt; omega), (by show 0 ≤ (mi 24).toInt; omega), (by show (mi 24).toInt ≤ 4; omega), (by show (mi 24).toInt ≤ 4 * (mi 22).toInt - 4 * (mi 23).toInt; omega), (by show 0 ≤ (0 : Int32).toInt; have k_0 : (0 : Int32).toInt = 0 := (by decide +kernel); omega), (by show 3 * (0 : Int32).toInt + 2 * (mi 35).toInt ≤ (mi 23).toInt; have k_0 : (0 : Int32).toInt = 0 := (by decide +kernel); omega), (by show 0 ≤ (mi 35).toInt; omega), (by show (mi 35).toInt ≤ 4; omega), (RSP_n RSP_nil (by first | rfl | decide +kernel | omega) (by first | rfl | decide +kernel | omega)), (show ((mi 24).toInt = 2 → (mi 25).toInt = 30 → (mi 23).toInt + 3 ≤ (mi 22).toInt) from lf_again)⟩ (by have k_6 : (0 : Int32).toInt = 0 := (by decide +kernel); omega) hw4 (lv_sub hl3 [0] rfl)
