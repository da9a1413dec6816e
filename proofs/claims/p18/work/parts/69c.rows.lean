set_option maxHeartbeats 4000000 in
set_option maxRecDepth 100000 in
theorem t_countPairs1K (l : Launch) (D : va_G) (cI cJ : ClassId) (sz : Nat) (mr : Nat → Nat) (mi : Nat → Int32) (mf : Nat → Nat → Int32) (mg : Nat → Nat → Int64)  (h0 : 0 ≤ (mi 6).toInt ∧ (mi 6).toInt ≤ 10) (x_wf : WFF (mi 6).toInt (mf 5)) : Met l yX1_countPairs (Cond.code yX1_countPairs cX1_countPairs 3 none :: GW) ({ frames := 3, cells := 0, slots := 0, locals := 86 } : Room) (va_Pc [.ref (mr 0)] (PW D cI cJ sz (WZ_Houses1 cI cJ mr mi mf mg) xT)) (va_Qv (fun (u : (Nat → Int32)) => (TBL (FR (mi 6).toInt (mf 5)) u ((2 ^ (mi 6).toInt.toNat : Nat) : Int))) (fun u => QW D cI cJ (va_A (WZ_Houses1 cI cJ mr mi mf mg) sz) ((fun (u : (Nat → Int32)) => (WZ_Houses1 cI cJ mr mi (va_up mf 9 u) mg)) u)) (va_A (WZ_Houses1 cI cJ mr mi mf mg) sz)) 0 0 (va_A (WZ_Houses1 cI cJ mr mi mf mg) sz) := by
  refine mk_met (y := yX1_countPairs) (bytes := cX1_countPairs) (maxL := 3) (avs := [.ref (mr 0)]) (WS := (WZ_Houses1 cI cJ mr mi mf mg)) (Qf := fun A => va_Qv (fun (u : (Nat → Int32)) => (TBL (FR (mi 6).toInt (mf 5)) u ((2 ^ (mi 6).toInt.toNat : Nat) : Int))) (fun u => QW D cI cJ A ((fun (u : (Nat → Int32)) => (WZ_Houses1 cI cJ mr mi (va_up mf 9 u) mg)) u)) A) (by decide) (Nat.le_of_ble_eq_true rfl) ?_
  intro p e s m below meth c A ls E hr hlk hnm hX hw1 hl2
  have hl3 : lv_has ls 3 [(0, .ref (mr 0))] := hl2
  refine lv_aload_n (pc := 0) E.1 E.2.1 dX1_countPairs_0 rfl (lv_at hl3 0 rfl) ?_
  refine x_get (pc := 1) (T := TX1) (N := 9) (ci := 1) (v := .ref (mr 9)) E hw1 inX1 0 8 q_288 rfl rfl (by decide) rfl rfl dX1_countPairs_1 ?_
  refine lv_ifnonnull (pc := 4) (tgt := 16) E.1 E.2.1 dX1_countPairs_4 (by decide) ?_
  refine lv_iconst (pc := 16) (v := 0) E.1 E.2.1 dX1_countPairs_16 (by decide +kernel) ?_
  refine lv_istore_n (pc := 17) (lv' := [(1, .int 0), (0, .ref (mr 0))]) E.1 E.2.1 dX1_countPairs_17 rfl hl3 (by decide) rfl (fun ls hl4 => ?_)
  have loop_5 : ∀ (k : Nat) (x_6 : Int32) (g_7 : Nat → Int32) (H : Heap) (locs : List Loc) (ls : Array Slot), (0 ≤ x_6.toInt) ∧ (x_6.toInt ≤ (mi 6).toInt) ∧ (TBL (FR (mi 6).toInt (mf 5)) g_7 ((2 ^ x_6.toInt.toNat : Nat) : Int)) → (mi 6).toInt - x_6.toInt < (k : Int) → WD D A s.heap (WZ_Houses1 cI cJ mr mi (va_up mf 9 g_7) mg) H locs → lv_has ls 3 [(1, .int x_6), (0, .ref (mr 0))] → W p l e ({ frames := 3, cells := 0, slots := 0, locals := 86 } : Room) s m ([.ref (mr 0)] : List Value).toArray below meth c H locs 0 0 (MQ below (va_Qv (fun (u : (Nat → Int32)) => (TBL (FR (mi 6).toInt (mf 5)) u ((2 ^ (mi 6).toInt.toNat : Nat) : Int))) (fun u => QW D cI cJ A ((fun (u : (Nat → Int32)) => (WZ_Houses1 cI cJ mr mi (va_up mf 9 u) mg)) u)) A) ([.ref (mr 0)] : List Value).toArray s 0 0 A) (F0 m 18 ls []) := by
    intro k
    induction k with
    | zero =>
      intro x_6 g_7 _ _ _ hinv hm
      obtain ⟨hi_7_0, hi_7_1, hi_7_2⟩ := hinv
      exact absurd hm (by omega)
    | succ k ih_8 =>
      intro x_6 g_7 H locs ls hinv hm hw9 hl10
      obtain ⟨hi_7_0, hi_7_1, hi_7_2⟩ := hinv
      refine lv_iload_n (pc := 18) E.1 E.2.1 dX1_countPairs_18 rfl (lv_at hl10 0 rfl) ?_
      refine lv_aload_n (pc := 19) E.1 E.2.1 dX1_countPairs_19 rfl (lv_at hl10 1 rfl) ?_
      refine x_get (pc := 20) (T := TX1) (N := 9) (ci := 1) (v := .int (mi 6)) E hw9 inX1 0 5 q_281 rfl rfl (by decide) rfl rfl dX1_countPairs_20 ?_
      refine lv_icmp_ge (pc := 23) (tgt := 63) E.1 E.2.1 dX1_countPairs_23 (by decide) (fun c_11 => ?_) (fun c_11 => ?_)
      · skip
        have hc_11 := leE (a := (mi 6).toInt) (b := x_6.toInt) rfl rfl c_11
        exact em_v (w1 := (fun (u : (Nat → Int32)) => (WZ_Houses1 cI cJ mr mi (va_up mf 9 u) mg))) E hr hlk g_7 hw9 (show TBL (FR (mi 6).toInt (mf 5)) g_7 ((2 ^ (mi 6).toInt.toNat : Nat) : Int) from (cp_e hi_7_2 (by omega))) (Nat.le_of_ble_eq_true rfl) (Nat.le_of_ble_eq_true rfl) dX1_countPairs_63
      · skip
        have hc_11 := nleE (a := (mi 6).toInt) (b := x_6.toInt) rfl rfl c_11
        refine lv_iconst (pc := 26) (v := 0) E.1 E.2.1 dX1_countPairs_26 (by decide +kernel) ?_
        refine lv_istore_n (pc := 27) (lv' := [(2, .int 0), (1, .int x_6), (0, .ref (mr 0))]) E.1 E.2.1 dX1_countPairs_27 rfl hl10 (by decide) rfl (fun ls hl12 => ?_)
        have loop_13 : ∀ (k : Nat) (x_14 : Int32) (g_15 : Nat → Int32) (H : Heap) (locs : List Loc) (ls : Array Slot), (0 ≤ x_14.toInt) ∧ (x_14.toInt ≤ 1024) ∧ (TBL (FR (mi 6).toInt (mf 5)) g_15 ((2 ^ x_6.toInt.toNat + x_14.toInt.toNat : Nat) : Int)) → 1024 - x_14.toInt < (k : Int) → WD D A s.heap (WZ_Houses1 cI cJ mr mi (va_up mf 9 g_15) mg) H locs → lv_has ls 3 [(2, .int x_14), (1, .int x_6), (0, .ref (mr 0))] → W p l e ({ frames := 3, cells := 0, slots := 0, locals := 86 } : Room) s m ([.ref (mr 0)] : List Value).toArray below meth c H locs 0 0 (MQ below (va_Qv (fun (u : (Nat → Int32)) => (TBL (FR (mi 6).toInt (mf 5)) u ((2 ^ (mi 6).toInt.toNat : Nat) : Int))) (fun u => QW D cI cJ A ((fun (u : (Nat → Int32)) => (WZ_Houses1 cI cJ mr mi (va_up mf 9 u) mg)) u)) A) ([.ref (mr 0)] : List Value).toArray s 0 0 A) (F0 m 28 ls []) := by
          intro k
          induction k with
          | zero =>
            intro x_14 g_15 _ _ _ hinv hm
            obtain ⟨hi_15_0, hi_15_1, hi_15_2⟩ := hinv
            exact absurd hm (by omega)
          | succ k ih_16 =>
            intro x_14 g_15 H locs ls hinv hm hw17 hl18
            obtain ⟨hi_15_0, hi_15_1, hi_15_2⟩ := hinv
            refine lv_iload_n (pc := 28) E.1 E.2.1 dX1_countPairs_28 rfl (lv_at hl18 0 rfl) ?_
            refine lv_iconst (pc := 29) (v := 1) E.1 E.2.1 dX1_countPairs_29 (by decide +kernel) ?_
            refine lv_iload_n (pc := 30) E.1 E.2.1 dX1_countPairs_30 rfl (lv_at hl18 1 rfl) ?_
            refine lv_ishl (pc := 31) E.1 E.2.1 dX1_countPairs_31 ?_
            refine lv_topi (fun v_19 ev_19 => ?_)
            have hb1v_19 : 1 ≤ v_19.toInt ∧ v_19.toInt ≤ 512 := by rw [ev_19]; exact shl9 (by omega)
            refine lv_icmp_ge (pc := 32) (tgt := 57) E.1 E.2.1 dX1_countPairs_32 (by decide) (fun c_20 => ?_) (fun c_20 => ?_)
            · skip
              have hc_20 := leE (a := v_19.toInt) (b := x_14.toInt) rfl rfl c_20
              obtain ⟨v_21, ev_21⟩ : ∃ z : Int32, x_6 + Int32.ofInt (1) = z := ⟨_, rfl⟩
              have hv_21 : v_21.toInt = x_6.toInt + (1) := by rw [← ev_21]; exact incE rfl (by decide) (by omega)
              refine lv_iinc (pc := 57) (v := v_21) (lv' := [(1, .int v_21), (2, .int x_14), (0, .ref (mr 0))]) E.1 E.2.1 dX1_countPairs_57 hl18 (k := 1) rfl ev_21 (by decide) rfl (fun ls hl22 => ?_)
              refine lv_goto (pc := 60) (tgt := 18) E.1 E.2.1 dX1_countPairs_60 (by decide) ?_
              exact ih_8 v_21 g_15 _ _ _ ⟨(by show 0 ≤ v_21.toInt; omega), (by show v_21.toInt ≤ (mi 6).toInt; omega), (cp_nx hi_15_2 ev_19 (by omega) (by omega) (by omega))⟩ (by omega) hw17 (lv_sub hl22 [0, 2] rfl)
            · skip
              have hc_20 := nleE (a := v_19.toInt) (b := x_14.toInt) rfl rfl c_20
              refine lv_aload_n (pc := 35) E.1 E.2.1 dX1_countPairs_35 rfl (lv_at hl18 2 rfl) ?_
              refine x_get (pc := 36) (T := TX1) (N := 9) (ci := 1) (v := .ref (mr 9)) E hw17 inX1 0 8 q_288 rfl rfl (by decide) rfl rfl dX1_countPairs_36 ?_
              refine lv_iload_n (pc := 39) E.1 E.2.1 dX1_countPairs_39 rfl (lv_at hl18 0 rfl) ?_
              refine lv_iconst (pc := 40) (v := 1) E.1 E.2.1 dX1_countPairs_40 (by decide +kernel) ?_
              refine lv_iload_n (pc := 41) E.1 E.2.1 dX1_countPairs_41 rfl (lv_at hl18 1 rfl) ?_
              refine lv_ishl (pc := 42) E.1 E.2.1 dX1_countPairs_42 ?_
              refine lv_topi (fun v_23 ev_23 => ?_)
              have hb1v_23 : 1 ≤ v_23.toInt ∧ v_23.toInt ≤ 512 := by rw [ev_23]; exact shl9 (by omega)
              refine lv_ior (pc := 43) E.1 E.2.1 dX1_countPairs_43 ?_
              refine lv_topi (fun v_24 ev_24 => ?_)
              have hb1v_24 : 0 ≤ v_24.toInt ∧ v_24.toInt ≤ 1023 := by rw [ev_24]; exact or10 (by omega) (by omega)
              refine lv_aload_n (pc := 44) E.1 E.2.1 dX1_countPairs_44 rfl (lv_at hl18 2 rfl) ?_
              refine lv_iload_n (pc := 45) E.1 E.2.1 dX1_countPairs_45 rfl (lv_at hl18 1 rfl) ?_
              refine lv_iload_n (pc := 46) E.1 E.2.1 dX1_countPairs_46 rfl (lv_at hl18 0 rfl) ?_
              refine ck_i (pc := 47) (ws' := (fun (u : Unit) => (WZ_Houses1 cI cJ mr mi (va_up mf 9 g_15) mg))) [true, true, true, true, true, true, true, true, true] hw17 rfl (fun hC_ => (rn_V (As := [.int x_6, .int x_14]) (rest := [.int v_24, .ref (mr 9)]) E hw17 (t_mostPairsK l D cI cJ _ mr mi (va_up mf 9 g_15) mg x_6 x_14 h0 hi_7_0 (by show x_6.toInt + 1 ≤ (mi 6).toInt; omega) (by show 0 ≤ x_14.toInt ∧ x_14.toInt ≤ 1023; omega) (show WFF (mi 6).toInt (mf 5) from x_wf) (show TBL (FR (mi 6).toInt (mf 5)) g_15 ((2 ^ x_6.toInt.toNat + x_14.toInt.toNat : Nat) : Int) from hi_15_2) (show x_14.toInt.toNat < 2 ^ x_6.toInt.toNat from (by have q := sb_shl ev_19 (by omega); omega))) (gdV q_1272 q_1274 q_41 q_154 q_1275) hdV_X1_mostPairs ⟨rfl, rfl⟩ ⟨(Nat.le_of_ble_eq_true rfl), (Nat.le_of_ble_eq_true rfl)⟩ ⟨(Nat.le_of_ble_eq_true rfl), (Nat.le_of_ble_eq_true rfl)⟩ xT_b xT_at 0 1 rfl rfl rfl _ hC_ (nd_T _ 0) rfl hl18.1 rfl (Nat.le_of_ble_eq_true rfl) dX1_countPairs_47)) rfl (fun _ => rfl) (fun _ => rfl) (fun r_26 u_25 H1 locs hp hw27 => ?_)
              generalize H1 = H at hw27 ⊢
              have hw28 : WD D A s.heap (WZ_Houses1 cI cJ mr mi (va_up mf 9 g_15) mg) H locs := hw27
              have hp_29 := hp
              have hp_29 : MXI (FR (mi 6).toInt (mf 5)) (2 ^ x_6.toInt.toNat + x_14.toInt.toNat) (r_26 : Int32).toInt := hp_29
              refine x_iastG (pc := 50) (f := g_15) (wf := fun g => (WZ_Houses1 cI cJ mr mi (va_up mf 9 g) mg)) E hw28 8 rfl (inbE (a := v_24.toInt) rfl (by omega)) (fun _ => rfl) dX1_countPairs_50 (fun g_30 H locs eg_30 hw31 => ?_)
              obtain ⟨v_32, ev_32⟩ : ∃ z : Int32, x_14 + Int32.ofInt (1) = z := ⟨_, rfl⟩
              have hv_32 : v_32.toInt = x_14.toInt + (1) := by rw [← ev_32]; exact incE rfl (by decide) (by omega)
              refine lv_iinc (pc := 51) (v := v_32) (lv' := [(2, .int v_32), (1, .int x_6), (0, .ref (mr 0))]) E.1 E.2.1 dX1_countPairs_51 hl18 (k := 0) rfl ev_32 (by decide) rfl (fun ls hl33 => ?_)
              refine lv_goto (pc := 54) (tgt := 28) E.1 E.2.1 dX1_countPairs_54 (by decide) ?_
              exact ih_16 v_32 g_30 _ _ _ ⟨(by show 0 ≤ v_32.toInt; omega), (by show v_32.toInt ≤ 1024; omega), (cp_st hi_15_2 hp_29 ev_23 ev_24 eg_30 (by omega) (by omega) (by have q := sb_shl ev_19 (by omega); have q2 := sb_shl ev_23 (by omega); omega) (by omega))⟩ (by omega) hw31 (lv_sub hl33 [0, 1, 2] rfl)
        exact loop_13 (Int.toNat (1024 - 0) + 1) 0 g_7 _ _ _ ⟨(by show 0 ≤ (0 : Int32).toInt; have k_0 : (0 : Int32).toInt = 0 := (by decide +kernel); omega), (by show (0 : Int32).toInt ≤ 1024; have k_0 : (0 : Int32).toInt = 0 := (by decide +kernel); omega), (cp_in hi_7_2 (by decide +kernel))⟩ (by have k_0 : (0 : Int32).toInt = 0 := (by decide +kernel); omega) hw9 (lv_sub hl12 [0, 1, 2] rfl)
  exact loop_5 (Int.toNat ((mi 6).toInt - 0) + 1) 0 (mf 9) _ _ _ ⟨(by show 0 ≤ (0 : Int32).toInt; have k_0 : (0 : Int32).toInt = 0 := (by decide +kernel); omega), (by show (0 : Int32).toInt ≤ (mi 6).toInt; have k_0 : (0 : Int32).toInt = 0 := (by decide +kernel); omega), (cp_z (by decide +kernel))⟩ (by have k_0 : (0 : Int32).toInt = 0 := (by decide +kernel); omega) hw1 (lv_sub hl4 [0, 1] rfl)
set_option maxHeartbeats 4000000 in
set_option maxRecDepth 100000 in
theorem t_firstPartnerK (l : Launch) (D : va_G) (cI cJ : ClassId) (sz : Nat) (mr : Nat → Nat) (mi : Nat → Int32) (mf : Nat → Nat → Int32) (mg : Nat → Nat → Int64) (z_h : Int32) (z_left : Int32) (h0 : 0 ≤ (mi 6).toInt ∧ (mi 6).toInt ≤ 10) (h1 : 0 ≤ z_h.toInt) (h2 : z_h.toInt + 1 ≤ (mi 6).toInt) (h3 : 0 ≤ z_left.toInt ∧ z_left.toInt ≤ 1023) (x_wf : WFF (mi 6).toInt (mf 5)) (x_tb : TBL (FR (mi 6).toInt (mf 5)) (mf 9) ((2 ^ (mi 6).toInt.toNat : Nat) : Int)) (x_lm : LFT (mi 6).toInt z_h.toInt z_left.toInt.toNat) : Met l yX1_firstPartner (Cond.code yX1_firstPartner cX1_firstPartner 5 (some .int) :: GW) ({ frames := 2, cells := 0, slots := 0, locals := 61 } : Room) (va_Pc [.ref (mr 0), .int z_h, .int z_left] (PW D cI cJ sz (WZ_Houses1 cI cJ mr mi mf mg) xT)) (va_Qi (fun (r : Int32) (u : Unit) => ((-1) ≤ r.toInt) ∧ (r.toInt + 1 ≤ (mi 6).toInt) ∧ ((r : Int32).toInt = fpN (FR (mi 6).toInt (mf 5)) z_left.toInt.toNat z_h.toInt.toNat (mi 6).toInt.toNat)) (fun u => QW D cI cJ (va_A (WZ_Houses1 cI cJ mr mi mf mg) sz) ((fun (u : Unit) => (WZ_Houses1 cI cJ mr mi mf mg)) u)) (va_A (WZ_Houses1 cI cJ mr mi mf mg) sz)) 0 0 (va_A (WZ_Houses1 cI cJ mr mi mf mg) sz) := by
  refine mk_met (y := yX1_firstPartner) (bytes := cX1_firstPartner) (maxL := 5) (avs := [.ref (mr 0), .int z_h, .int z_left]) (WS := (WZ_Houses1 cI cJ mr mi mf mg)) (Qf := fun A => va_Qi (fun (r : Int32) (u : Unit) => ((-1) ≤ r.toInt) ∧ (r.toInt + 1 ≤ (mi 6).toInt) ∧ ((r : Int32).toInt = fpN (FR (mi 6).toInt (mf 5)) z_left.toInt.toNat z_h.toInt.toNat (mi 6).toInt.toNat)) (fun u => QW D cI cJ A ((fun (u : Unit) => (WZ_Houses1 cI cJ mr mi mf mg)) u)) A) (by decide) (Nat.le_of_ble_eq_true rfl) ?_
  intro p e s m below meth c A ls E hr hlk hnm hX hw1 hl2
  have hl3 : lv_has ls 5 [(0, .ref (mr 0)), (1, .int z_h), (2, .int z_left)] := hl2
  refine lv_iconst (pc := 0) (v := 0) E.1 E.2.1 dX1_firstPartner_0 (by decide +kernel) ?_
  refine lv_istore_n (pc := 1) (lv' := [(3, .int 0), (0, .ref (mr 0)), (1, .int z_h), (2, .int z_left)]) E.1 E.2.1 dX1_firstPartner_1 rfl hl3 (by decide) rfl (fun ls hl4 => ?_)
  have loop_5 : ∀ (k : Nat) (x_6 : Int32) (H : Heap) (locs : List Loc) (ls : Array Slot), (0 ≤ x_6.toInt) ∧ (x_6.toInt ≤ (mi 6).toInt) ∧ (∀ j : Nat, (j : Int) < x_6.toInt → ¬ fpc (FR (mi 6).toInt (mf 5)) z_left.toInt.toNat z_h.toInt.toNat j) → (mi 6).toInt - x_6.toInt < (k : Int) → WD D A s.heap (WZ_Houses1 cI cJ mr mi mf mg) H locs → lv_has ls 5 [(3, .int x_6), (0, .ref (mr 0)), (1, .int z_h), (2, .int z_left)] → W p l e ({ frames := 2, cells := 0, slots := 0, locals := 61 } : Room) s m ([.ref (mr 0), .int z_h, .int z_left] : List Value).toArray below meth c H locs 0 0 (MQ below (va_Qi (fun (r : Int32) (u : Unit) => ((-1) ≤ r.toInt) ∧ (r.toInt + 1 ≤ (mi 6).toInt) ∧ ((r : Int32).toInt = fpN (FR (mi 6).toInt (mf 5)) z_left.toInt.toNat z_h.toInt.toNat (mi 6).toInt.toNat)) (fun u => QW D cI cJ A ((fun (u : Unit) => (WZ_Houses1 cI cJ mr mi mf mg)) u)) A) ([.ref (mr 0), .int z_h, .int z_left] : List Value).toArray s 0 0 A) (F0 m 2 ls []) := by
    intro k
    induction k with
    | zero =>
      intro x_6 _ _ _ hinv hm
      obtain ⟨hi_6_0, hi_6_1, hi_6_2⟩ := hinv
      exact absurd hm (by omega)
    | succ k ih_7 =>
      intro x_6 H locs ls hinv hm hw8 hl9
      obtain ⟨hi_6_0, hi_6_1, hi_6_2⟩ := hinv
      refine lv_iload_n (pc := 2) E.1 E.2.1 dX1_firstPartner_2 rfl (lv_at hl9 0 rfl) ?_
      refine lv_aload_n (pc := 3) E.1 E.2.1 dX1_firstPartner_3 rfl (lv_at hl9 1 rfl) ?_
      refine x_get (pc := 4) (T := TX1) (N := 9) (ci := 1) (v := .int (mi 6)) E hw8 inX1 0 5 q_281 rfl rfl (by decide) rfl rfl dX1_firstPartner_4 ?_
      refine lv_icmp_ge (pc := 7) (tgt := 71) E.1 E.2.1 dX1_firstPartner_7 (by decide) (fun c_10 => ?_) (fun c_10 => ?_)
      · skip
        have hc_10 := leE (a := (mi 6).toInt) (b := x_6.toInt) rfl rfl c_10
        refine lv_iconst (pc := 71) (v := (-1)) E.1 E.2.1 dX1_firstPartner_71 (by decide +kernel) ?_
        exact em_i (w1 := (fun (u : Unit) => (WZ_Houses1 cI cJ mr mi mf mg))) E hr hlk () hw8 ⟨(by show (-1) ≤ ((-1) : Int32).toInt; have k_0 : ((-1) : Int32).toInt = -1 := (by decide +kernel); omega), (by show ((-1) : Int32).toInt + 1 ≤ (mi 6).toInt; have k_0 : ((-1) : Int32).toInt = -1 := (by decide +kernel); omega), (show ((-1) : Int32).toInt = fpN (FR (mi 6).toInt (mf 5)) z_left.toInt.toNat z_h.toInt.toNat (mi 6).toInt.toNat from (fp_z hi_6_2 (by omega) (by decide +kernel)))⟩ (Nat.le_of_ble_eq_true rfl) (Nat.le_of_ble_eq_true rfl) dX1_firstPartner_72
      · skip
        have hc_10 := nleE (a := (mi 6).toInt) (b := x_6.toInt) rfl rfl c_10
        refine lv_iload_n (pc := 10) E.1 E.2.1 dX1_firstPartner_10 rfl (lv_at hl9 3 rfl) ?_
        refine lv_aload_n (pc := 11) E.1 E.2.1 dX1_firstPartner_11 rfl (lv_at hl9 1 rfl) ?_
        refine x_get (pc := 12) (T := TX1) (N := 9) (ci := 1) (v := .ref (mr 5)) E hw8 inX1 0 4 q_277 rfl rfl (by decide) rfl rfl dX1_firstPartner_12 ?_
        refine lv_iload_n (pc := 15) E.1 E.2.1 dX1_firstPartner_15 rfl (lv_at hl9 2 rfl) ?_
        refine x_iald (pc := 16) (f := (mf 5)) E hw8 5 rfl (inbE (a := z_h.toInt) rfl (by omega)) dX1_firstPartner_16 ?_
        refine lv_topi (fun v_11 ev_11 => ?_)
        refine lv_iand (pc := 17) E.1 E.2.1 dX1_firstPartner_17 ?_
        refine lv_topi (fun v_12 ev_12 => ?_)
        have hb1v_12 : 0 ≤ v_12.toInt ∧ v_12.toInt ≤ z_left.toInt := by rw [ev_12]; exact and10 (by omega)
        refine lv_iload_n (pc := 18) E.1 E.2.1 dX1_firstPartner_18 rfl (lv_at hl9 0 rfl) ?_
        refine lv_ishr (pc := 19) E.1 E.2.1 dX1_firstPartner_19 ?_
        refine lv_topi (fun v_13 ev_13 => ?_)
        refine lv_iconst (pc := 20) (v := 1) E.1 E.2.1 dX1_firstPartner_20 (by decide +kernel) ?_
        refine lv_iand (pc := 21) E.1 E.2.1 dX1_firstPartner_21 ?_
        refine lv_topi (fun v_14 ev_14 => ?_)
        refine lv_iconst (pc := 22) (v := 1) E.1 E.2.1 dX1_firstPartner_22 (by decide +kernel) ?_
        have hq_15 := fp_bits x_wf ev_11 ev_12 ev_13 ev_14 ⟨by omega, by omega⟩ (by omega) ⟨by omega, by omega⟩ x_lm ⟨by omega, by omega⟩
        refine lv_icmp_ne (pc := 23) (tgt := 30) E.1 E.2.1 dX1_firstPartner_23 (by decide) (fun c_16 => ?_) (fun c_16 => ?_)
        · skip
          have hc_16 := neE (a := v_14.toInt) (b := 1) rfl (by decide +kernel) c_16
          refine lv_iconst (pc := 30) (v := 0) E.1 E.2.1 dX1_firstPartner_30 (by decide +kernel) ?_
          refine lv_istore (pc := 31) (lv' := [(4, .int 0), (3, .int x_6), (0, .ref (mr 0)), (1, .int z_h), (2, .int z_left)]) E.1 E.2.1 dX1_firstPartner_31 hl9 (by decide) rfl (fun ls hl17 => ?_)
          refine lv_iload (pc := 33) E.1 E.2.1 dX1_firstPartner_33 (lv_at hl17 0 rfl) ?_
          refine lv_if_eq (pc := 35) (tgt := 65) E.1 E.2.1 dX1_firstPartner_35 (by decide) (fun _ => ?_) (fun c_18 => absurd (meqE (a := 0) (b := 0) (by decide +kernel) (by decide +kernel) (by omega)) c_18)
          obtain ⟨v_19, ev_19⟩ : ∃ z : Int32, x_6 + Int32.ofInt (1) = z := ⟨_, rfl⟩
          have hv_19 : v_19.toInt = x_6.toInt + (1) := by rw [← ev_19]; exact incE rfl (by decide) (by omega)
          refine lv_iinc (pc := 65) (v := v_19) (lv' := [(3, .int v_19), (4, .int 0), (0, .ref (mr 0)), (1, .int z_h), (2, .int z_left)]) E.1 E.2.1 dX1_firstPartner_65 hl17 (k := 1) rfl ev_19 (by decide) rfl (fun ls hl20 => ?_)
          refine lv_goto (pc := 68) (tgt := 2) E.1 E.2.1 dX1_firstPartner_68 (by decide) ?_
          exact ih_7 v_19 _ _ _ ⟨(by show 0 ≤ v_19.toInt; omega), (by show v_19.toInt ≤ (mi 6).toInt; omega), (fp_s hi_6_2 (by omega) (by omega) (fp_c0 hq_15 (by omega)))⟩ (by omega) hw8 (lv_sub hl20 [0, 2, 3, 4] rfl)
        · skip
          have hc_16 := eqE (a := v_14.toInt) (b := 1) rfl (by decide +kernel) c_16
          refine lv_iconst (pc := 26) (v := 1) E.1 E.2.1 dX1_firstPartner_26 (by decide +kernel) ?_
          refine lv_goto (pc := 27) (tgt := 31) E.1 E.2.1 dX1_firstPartner_27 (by decide) ?_
          refine lv_istore (pc := 31) (lv' := [(4, .int 1), (3, .int x_6), (0, .ref (mr 0)), (1, .int z_h), (2, .int z_left)]) E.1 E.2.1 dX1_firstPartner_31 hl9 (by decide) rfl (fun ls hl21 => ?_)
          refine lv_iload (pc := 33) E.1 E.2.1 dX1_firstPartner_33 (lv_at hl21 0 rfl) ?_
          refine lv_if_eq (pc := 35) (tgt := 65) E.1 E.2.1 dX1_firstPartner_35 (by decide) (fun c_22 => absurd c_22 (mneE (a := 1) (b := 0) (by decide +kernel) (by decide +kernel) (by omega))) (fun _ => ?_)
          refine lv_aload_n (pc := 38) E.1 E.2.1 dX1_firstPartner_38 rfl (lv_at hl21 2 rfl) ?_
          refine lv_iload_n (pc := 39) E.1 E.2.1 dX1_firstPartner_39 rfl (lv_at hl21 4 rfl) ?_
          refine lv_iconst (pc := 40) (v := 1) E.1 E.2.1 dX1_firstPartner_40 (by decide +kernel) ?_
          refine lv_iload_n (pc := 41) E.1 E.2.1 dX1_firstPartner_41 rfl (lv_at hl21 3 rfl) ?_
          refine lv_ishl (pc := 42) E.1 E.2.1 dX1_firstPartner_42 ?_
          refine lv_topi (fun v_23 ev_23 => ?_)
          have hb1v_23 : 1 ≤ v_23.toInt ∧ v_23.toInt ≤ 512 := by rw [ev_23]; exact shl9 (by omega)
          refine lv_iconst (pc := 43) (v := 1) E.1 E.2.1 dX1_firstPartner_43 (by decide +kernel) ?_
          refine lv_iload_n (pc := 44) E.1 E.2.1 dX1_firstPartner_44 rfl (lv_at hl21 1 rfl) ?_
          refine lv_ishl (pc := 45) E.1 E.2.1 dX1_firstPartner_45 ?_
          refine lv_topi (fun v_24 ev_24 => ?_)
          have hb1v_24 : 1 ≤ v_24.toInt ∧ v_24.toInt ≤ 512 := by rw [ev_24]; exact shl9 (by omega)
          refine lv_ior (pc := 46) E.1 E.2.1 dX1_firstPartner_46 ?_
          refine lv_topi (fun v_25 ev_25 => ?_)
          have hb1v_25 : 0 ≤ v_25.toInt ∧ v_25.toInt ≤ 1023 := by rw [ev_25]; exact or10 (by omega) (by omega)
          refine lv_iconst (pc := 47) (v := (-1)) E.1 E.2.1 dX1_firstPartner_47 (by decide +kernel) ?_
          refine lv_ixor (pc := 48) E.1 E.2.1 dX1_firstPartner_48 ?_
          refine lv_topi (fun v_26 ev_26 => ?_)
          refine lv_iand (pc := 49) E.1 E.2.1 dX1_firstPartner_49 ?_
          refine lv_topi (fun v_27 ev_27 => ?_)
          have hb1v_27 : 0 ≤ v_27.toInt ∧ v_27.toInt ≤ z_left.toInt := by rw [ev_27]; exact and10 (by omega)
          refine ck_i (pc := 50) (ws' := (fun (u : Unit) => (WZ_Houses1 cI cJ mr mi mf mg))) [true, true, true, true, true, true, true, true, true] hw8 rfl (fun hC_ => (rn_V (As := [.int v_27]) (rest := []) E hw8 (t_pairsInK l D cI cJ _ mr mi mf mg v_27) (gdV q_1276 q_1278 q_42 q_154 q_1279) hdV_X1_pairsIn ⟨rfl, rfl⟩ ⟨(Nat.le_of_ble_eq_true rfl), (Nat.le_of_ble_eq_true rfl)⟩ ⟨(Nat.le_of_ble_eq_true rfl), (Nat.le_of_ble_eq_true rfl)⟩ xT_b xT_at 0 1 rfl rfl rfl _ hC_ (nd_T _ 0) rfl hl21.1 rfl (Nat.le_of_ble_eq_true rfl) dX1_firstPartner_50)) rfl (fun _ => rfl) (fun _ => rfl) (fun r_29 u_28 H1 locs hp hw30 => ?_)
          generalize H1 = H at hw30 ⊢
          have hw31 : WD D A s.heap (WZ_Houses1 cI cJ mr mi mf mg) H locs := hw30
          have hp_32 := hp
          have hp_32 : (r_29 : Int32).toInt = PINf (mf 9) v_27.toInt := hp_32
          have hq_33 := fp_c x_tb ev_23 ev_24 ev_25 ev_26 ev_27 hp_32 ⟨by omega, by omega⟩ x_lm ⟨by omega, by omega⟩ (by omega) ⟨by omega, by omega⟩
          have hq_33b := hq_33.2
          refine lv_iconst (pc := 53) (v := 1) E.1 E.2.1 dX1_firstPartner_53 (by decide +kernel) ?_
          refine lv_iadd (pc := 54) E.1 E.2.1 dX1_firstPartner_54 ?_
          refine lv_topi (fun v_34 ev_34 => ?_)
          have hv_34 : v_34.toInt = r_29.toInt + 1 := by rw [ev_34]; exact addE rfl (by decide +kernel) (by omega)
          refine lv_aload_n (pc := 55) E.1 E.2.1 dX1_firstPartner_55 rfl (lv_at hl21 2 rfl) ?_
          refine lv_iload_n (pc := 56) E.1 E.2.1 dX1_firstPartner_56 rfl (lv_at hl21 4 rfl) ?_
          refine ck_i (pc := 57) (ws' := (fun (u : Unit) => (WZ_Houses1 cI cJ mr mi mf mg))) [true, true, true, true, true, true, true, true, true] hw31 rfl (fun hC_ => (rn_V (As := [.int z_left]) (rest := [.int v_34]) E hw31 (t_pairsInK l D cI cJ _ mr mi mf mg z_left) (gdV q_1276 q_1278 q_42 q_154 q_1279) hdV_X1_pairsIn ⟨rfl, rfl⟩ ⟨(Nat.le_of_ble_eq_true rfl), (Nat.le_of_ble_eq_true rfl)⟩ ⟨(Nat.le_of_ble_eq_true rfl), (Nat.le_of_ble_eq_true rfl)⟩ xT_b xT_at 0 1 rfl rfl rfl _ hC_ (nd_T _ 0) rfl hl21.1 rfl (Nat.le_of_ble_eq_true rfl) dX1_firstPartner_57)) rfl (fun _ => rfl) (fun _ => rfl) (fun r_36 u_35 H1 locs hp hw37 => ?_)
          generalize H1 = H at hw37 ⊢
          have hw38 : WD D A s.heap (WZ_Houses1 cI cJ mr mi mf mg) H locs := hw37
          have hp_39 := hp
          have hp_39 : (r_36 : Int32).toInt = PINf (mf 9) z_left.toInt := hp_39
          have hq_40 := fp_a x_tb hp_39 ⟨by omega, by omega⟩ x_lm (by omega)
          refine lv_icmp_ne (pc := 60) (tgt := 65) E.1 E.2.1 dX1_firstPartner_60 (by decide) (fun c_41 => ?_) (fun c_41 => ?_)
          · skip
            have hc_41 := neE (a := v_34.toInt) (b := r_36.toInt) rfl rfl c_41
            obtain ⟨v_42, ev_42⟩ : ∃ z : Int32, x_6 + Int32.ofInt (1) = z := ⟨_, rfl⟩
            have hv_42 : v_42.toInt = x_6.toInt + (1) := by rw [← ev_42]; exact incE rfl (by decide) (by omega)
            refine lv_iinc (pc := 65) (v := v_42) (lv' := [(3, .int v_42), (4, .int 1), (0, .ref (mr 0)), (1, .int z_h), (2, .int z_left)]) E.1 E.2.1 dX1_firstPartner_65 hl21 (k := 1) rfl ev_42 (by decide) rfl (fun ls hl43 => ?_)
            refine lv_goto (pc := 68) (tgt := 2) E.1 E.2.1 dX1_firstPartner_68 (by decide) ?_
            exact ih_7 v_42 _ _ _ ⟨(by show 0 ≤ v_42.toInt; omega), (by show v_42.toInt ≤ (mi 6).toInt; omega), (fp_s hi_6_2 (by omega) (by omega) (fp_c1 hq_33.1 hq_40 (by omega)))⟩ (by omega) hw38 (lv_sub hl43 [0, 2, 3, 4] rfl)
          · skip
            have hc_41 := eqE (a := v_34.toInt) (b := r_36.toInt) rfl rfl c_41
            refine lv_iload_n (pc := 63) E.1 E.2.1 dX1_firstPartner_63 rfl (lv_at hl21 1 rfl) ?_
            exact em_i (w1 := (fun (u : Unit) => (WZ_Houses1 cI cJ mr mi mf mg))) E hr hlk () hw38 ⟨(by show (-1) ≤ x_6.toInt; omega), (by show x_6.toInt + 1 ≤ (mi 6).toInt; omega), (show (x_6 : Int32).toInt = fpN (FR (mi 6).toInt (mf 5)) z_left.toInt.toNat z_h.toInt.toNat (mi 6).toInt.toNat from (fp_r hi_6_2 hq_15 (by omega) hq_33.1 hq_40 (by omega) ⟨by omega, by omega⟩))⟩ (Nat.le_of_ble_eq_true rfl) (Nat.le_of_ble_eq_true rfl) dX1_firstPartner_64
  exact loop_5 (Int.toNat ((mi 6).toInt - 0) + 1) 0 _ _ _ ⟨(by show 0 ≤ (0 : Int32).toInt; have k_0 : (0 : Int32).toInt = 0 := (by decide +kernel); omega), (by show (0 : Int32).toInt ≤ (mi 6).toInt; have k_0 : (0 : Int32).toInt = 0 := (by decide +kernel); omega), (fp_i (by decide +kernel))⟩ (by have k_0 : (0 : Int32).toInt = 0 := (by decide +kernel); omega) hw1 (lv_sub hl4 [0, 1, 2, 3] rfl)
