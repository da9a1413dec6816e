set_option maxHeartbeats 4000000 in
set_option maxRecDepth 100000 in
theorem s_ask (l : Launch) (D : va_G) (cI cJ : ClassId) (sz M : Nat) (mr : Nat → Nat) (mi : Nat → Int32) (mf : Nat → Nat → Int32) (mg : Nat → Nat → Int64) (z_n : Int32) (z_what : Int32) (h0 : 0 ≤ (mi 6).toInt ∧ (mi 6).toInt ≤ 10) (h1 : 0 ≤ (mi 17).toInt ∧ (mi 17).toInt ≤ 8) (h2 : 0 ≤ (mi 42).toInt ∧ (mi 42).toInt ≤ 40) (a_paths : pathsOK (mf 43)) : Met l yX12_ask (Cond.code yX12_ask cX12_ask 14 (some .int) :: GW) ({ frames := 5, cells := 0, slots := 0, locals := 131 } : Room) (va_Pc [.ref M, .int z_n, .int z_what] (PW D cI cJ sz (MW cI cJ M mr mi mf mg) xT)) (va_Qi (fun (r : Int32) (u : Int32 × (Nat → Int32) × (Nat → Int64) × (Nat → Int64)) => True) (fun u => QW D cI cJ (va_A (MW cI cJ M mr mi mf mg) sz) ((fun (u : Int32 × (Nat → Int32) × (Nat → Int64) × (Nat → Int64)) => (MW cI cJ M mr (upd mi 0 u.1) (va_up mf 55 u.2.1) (va_up (va_up mg 64 u.2.2.1) 65 u.2.2.2))) u)) (va_A (MW cI cJ M mr mi mf mg) sz)) 0 0 (va_A (MW cI cJ M mr mi mf mg) sz) := by
  refine mk_met (y := yX12_ask) (bytes := cX12_ask) (maxL := 14) (avs := [.ref M, .int z_n, .int z_what]) (WS := (MW cI cJ M mr mi mf mg)) (Qf := fun A => va_Qi (fun (r : Int32) (u : Int32 × (Nat → Int32) × (Nat → Int64) × (Nat → Int64)) => True) (fun u => QW D cI cJ A ((fun (u : Int32 × (Nat → Int32) × (Nat → Int64) × (Nat → Int64)) => (MW cI cJ M mr (upd mi 0 u.1) (va_up mf 55 u.2.1) (va_up (va_up mg 64 u.2.2.1) 65 u.2.2.2))) u)) A) (by decide) (Nat.le_of_ble_eq_true rfl) ?_
  intro p e s m below meth c A ls E hr hlk hnm hX hw1 hl2
  have hl3 : lv_has ls 14 [(0, .ref M), (1, .int z_n), (2, .int z_what)] := hl2
  refine lv_aload_n (pc := 0) E.1 E.2.1 dX12_ask_0 rfl (lv_at hl3 0 rfl) ?_
  refine lv_iconst (pc := 1) (v := 0) E.1 E.2.1 dX12_ask_1 (by decide +kernel) ?_
  refine x_put (pc := 2) (T := TX12) (N := 70) (ci := 12) (ws' := (MW cI cJ M mr (upd mi 0 0) mf mg)) E hw1 inX12 tyX12_ok nmX12 0 0 q_1399 rfl rfl (by decide) rfl rfl rfl rfl (Nat.le_of_ble_eq_true rfl) rfl dX12_ask_2 (fun H locs hw4 => ?_)
  refine lv_aload_n (pc := 5) E.1 E.2.1 dX12_ask_5 rfl (lv_at hl3 0 rfl) ?_
  refine lv_iload_n (pc := 6) E.1 E.2.1 dX12_ask_6 rfl (lv_at hl3 1 rfl) ?_
  refine lv_iconst (pc := 7) (v := 1) E.1 E.2.1 dX12_ask_7 (by decide +kernel) ?_
  refine lv_bipush (pc := 8) (v := 10) E.1 E.2.1 dX12_ask_8 (by decide +kernel) ?_
  refine cm_i (pc := 10) hw4 (rn_M (As := [.int z_n, .int 1, .int 10]) (rest := []) E hw4 (s_isIn l D cI cJ _ M mr (upd mi 0 0) mf mg z_n 1 10) (gdV q_1622 q_1624 q_46 q_162 q_1625) hdV_X12_isIn ⟨rfl, rfl⟩ ⟨(Nat.le_of_ble_eq_true rfl), (Nat.le_of_ble_eq_true rfl)⟩ ⟨(Nat.le_of_ble_eq_true rfl), (Nat.le_of_ble_eq_true rfl)⟩ 12 rfl rfl rfl rfl hl3.1 rfl (Nat.le_of_ble_eq_true rfl) dX12_ask_10) (fun r_6 u_5 H1 locs hp hw7 => ?_)
  generalize H1 = H at hw7 ⊢
  have hw8 : WD D A s.heap (MW cI cJ M mr (upd mi 0 0) mf mg) H locs := hw7
  have hp_9 := hp
  rcases hp_9 with ⟨rfl, ha_10⟩ | ⟨rfl, ha_11⟩ | ⟨rfl, ha_12, ha_13⟩
  · skip
    have ha_10 : z_n.toInt < (1 : Int32).toInt := ha_10
    rw [show (1 : Int32).toInt = 1 from by decide +kernel] at ha_10
    refine lv_if_eq (pc := 13) (tgt := 26) E.1 E.2.1 dX12_ask_13 (by decide) (fun _ => ?_) (fun c_14 => absurd (meqE (a := 0) (b := 0) (by decide +kernel) (by decide +kernel) (by omega)) c_14)
    refine lv_iconst (pc := 26) (v := (-1)) E.1 E.2.1 dX12_ask_26 (by decide +kernel) ?_
    exact em_i (w1 := (fun (u : Int32 × (Nat → Int32) × (Nat → Int64) × (Nat → Int64)) => (MW cI cJ M mr (upd mi 0 u.1) (va_up mf 55 u.2.1) (va_up (va_up mg 64 u.2.2.1) 65 u.2.2.2)))) E hr hlk (0, (mf 55), (mg 64), (mg 65)) hw8 trivial (Nat.le_of_ble_eq_true rfl) (Nat.le_of_ble_eq_true rfl) dX12_ask_27
  · skip
    have ha_11 : (10 : Int32).toInt < z_n.toInt := ha_11
    rw [show (10 : Int32).toInt = 10 from by decide +kernel] at ha_11
    refine lv_if_eq (pc := 13) (tgt := 26) E.1 E.2.1 dX12_ask_13 (by decide) (fun _ => ?_) (fun c_15 => absurd (meqE (a := 0) (b := 0) (by decide +kernel) (by decide +kernel) (by omega)) c_15)
    refine lv_iconst (pc := 26) (v := (-1)) E.1 E.2.1 dX12_ask_26 (by decide +kernel) ?_
    exact em_i (w1 := (fun (u : Int32 × (Nat → Int32) × (Nat → Int64) × (Nat → Int64)) => (MW cI cJ M mr (upd mi 0 u.1) (va_up mf 55 u.2.1) (va_up (va_up mg 64 u.2.2.1) 65 u.2.2.2)))) E hr hlk (0, (mf 55), (mg 64), (mg 65)) hw8 trivial (Nat.le_of_ble_eq_true rfl) (Nat.le_of_ble_eq_true rfl) dX12_ask_27
  · skip
    have ha_12 : (1 : Int32).toInt ≤ z_n.toInt := ha_12
    rw [show (1 : Int32).toInt = 1 from by decide +kernel] at ha_12
    have ha_13 : z_n.toInt ≤ (10 : Int32).toInt := ha_13
    rw [show (10 : Int32).toInt = 10 from by decide +kernel] at ha_13
    refine lv_if_eq (pc := 13) (tgt := 26) E.1 E.2.1 dX12_ask_13 (by decide) (fun c_16 => absurd c_16 (mneE (a := 1) (b := 0) (by decide +kernel) (by decide +kernel) (by omega))) (fun _ => ?_)
    refine lv_aload_n (pc := 16) E.1 E.2.1 dX12_ask_16 rfl (lv_at hl3 0 rfl) ?_
    refine lv_iload_n (pc := 17) E.1 E.2.1 dX12_ask_17 rfl (lv_at hl3 2 rfl) ?_
    refine lv_iconst (pc := 18) (v := 0) E.1 E.2.1 dX12_ask_18 (by decide +kernel) ?_
    refine lv_iconst (pc := 19) (v := 1) E.1 E.2.1 dX12_ask_19 (by decide +kernel) ?_
    refine cm_i (pc := 20) hw8 (rn_M (As := [.int z_what, .int 0, .int 1]) (rest := []) E hw8 (s_isIn l D cI cJ _ M mr (upd mi 0 0) mf mg z_what 0 1) (gdV q_1622 q_1624 q_46 q_162 q_1625) hdV_X12_isIn ⟨rfl, rfl⟩ ⟨(Nat.le_of_ble_eq_true rfl), (Nat.le_of_ble_eq_true rfl)⟩ ⟨(Nat.le_of_ble_eq_true rfl), (Nat.le_of_ble_eq_true rfl)⟩ 12 rfl rfl rfl rfl hl3.1 rfl (Nat.le_of_ble_eq_true rfl) dX12_ask_20) (fun r_18 u_17 H1 locs hp hw19 => ?_)
    generalize H1 = H at hw19 ⊢
    have hw20 : WD D A s.heap (MW cI cJ M mr (upd mi 0 0) mf mg) H locs := hw19
    have hp_21 := hp
    rcases hp_21 with ⟨rfl, ha_22⟩ | ⟨rfl, ha_23⟩ | ⟨rfl, ha_24, ha_25⟩
    · skip
      have ha_22 : z_what.toInt < (0 : Int32).toInt := ha_22
      rw [show (0 : Int32).toInt = 0 from by decide +kernel] at ha_22
      refine lv_if_ne (pc := 23) (tgt := 28) E.1 E.2.1 dX12_ask_23 (by decide) (fun c_26 => absurd (meqE (a := 0) (b := 0) (by decide +kernel) (by decide +kernel) (by omega)) c_26) (fun _ => ?_)
      refine lv_iconst (pc := 26) (v := (-1)) E.1 E.2.1 dX12_ask_26 (by decide +kernel) ?_
      exact em_i (w1 := (fun (u : Int32 × (Nat → Int32) × (Nat → Int64) × (Nat → Int64)) => (MW cI cJ M mr (upd mi 0 u.1) (va_up mf 55 u.2.1) (va_up (va_up mg 64 u.2.2.1) 65 u.2.2.2)))) E hr hlk (0, (mf 55), (mg 64), (mg 65)) hw20 trivial (Nat.le_of_ble_eq_true rfl) (Nat.le_of_ble_eq_true rfl) dX12_ask_27
    · skip
      have ha_23 : (1 : Int32).toInt < z_what.toInt := ha_23
      rw [show (1 : Int32).toInt = 1 from by decide +kernel] at ha_23
      refine lv_if_ne (pc := 23) (tgt := 28) E.1 E.2.1 dX12_ask_23 (by decide) (fun c_27 => absurd (meqE (a := 0) (b := 0) (by decide +kernel) (by decide +kernel) (by omega)) c_27) (fun _ => ?_)
      refine lv_iconst (pc := 26) (v := (-1)) E.1 E.2.1 dX12_ask_26 (by decide +kernel) ?_
      exact em_i (w1 := (fun (u : Int32 × (Nat → Int32) × (Nat → Int64) × (Nat → Int64)) => (MW cI cJ M mr (upd mi 0 u.1) (va_up mf 55 u.2.1) (va_up (va_up mg 64 u.2.2.1) 65 u.2.2.2)))) E hr hlk (0, (mf 55), (mg 64), (mg 65)) hw20 trivial (Nat.le_of_ble_eq_true rfl) (Nat.le_of_ble_eq_true rfl) dX12_ask_27
    · skip
      have ha_24 : (0 : Int32).toInt ≤ z_what.toInt := ha_24
      rw [show (0 : Int32).toInt = 0 from by decide +kernel] at ha_24
      have ha_25 : z_what.toInt ≤ (1 : Int32).toInt := ha_25
      rw [show (1 : Int32).toInt = 1 from by decide +kernel] at ha_25
      refine lv_if_ne (pc := 23) (tgt := 28) E.1 E.2.1 dX12_ask_23 (by decide) (fun _ => ?_) (fun c_28 => absurd c_28 (mneE (a := 1) (b := 0) (by decide +kernel) (by decide +kernel) (by omega)))
      refine lv_aload_n (pc := 28) E.1 E.2.1 dX12_ask_28 rfl (lv_at hl3 0 rfl) ?_
      refine lv_iload_n (pc := 29) E.1 E.2.1 dX12_ask_29 rfl (lv_at hl3 1 rfl) ?_
      refine cm_v (pc := 30) hw20 (rn_M (As := [.int z_n]) (rest := []) E hw20 (s_findsRows l D cI cJ _ M mr (upd mi 0 0) mf mg z_n h0 h1 h2 (by show 1 ≤ z_n.toInt ∧ z_n.toInt ≤ 10; omega) a_paths) (gdV q_2093 q_2095 q_141 q_162 q_2096) hdV_X12_findsRows ⟨rfl, rfl⟩ ⟨(Nat.le_of_ble_eq_true rfl), (Nat.le_of_ble_eq_true rfl)⟩ ⟨(Nat.le_of_ble_eq_true rfl), (Nat.le_of_ble_eq_true rfl)⟩ 12 rfl rfl rfl rfl hl3.1 rfl (Nat.le_of_ble_eq_true rfl) dX12_ask_30) (fun u_29 H1 locs hp hw31 => ?_)
      obtain ⟨gfarOf_32, growsTo_33, growsFrom_34⟩ := u_29
      generalize H1 = H at hw31 ⊢
      have hw35 : WD D A s.heap (MW cI cJ M mr (upd mi 0 0) (va_up mf 55 gfarOf_32) (va_up (va_up mg 64 growsTo_33) 65 growsFrom_34)) H locs := hw31
      refine lv_aload_n (pc := 33) E.1 E.2.1 dX12_ask_33 rfl (lv_at hl3 0 rfl) ?_
      refine lv_iload_n (pc := 34) E.1 E.2.1 dX12_ask_34 rfl (lv_at hl3 1 rfl) ?_
      refine cm_l (pc := 35) hw35 (rn_M (As := [.int z_n]) (rest := []) E hw35 (s_allRows l D cI cJ _ M mr (upd mi 0 0) (va_up mf 55 gfarOf_32) (va_up (va_up mg 64 growsTo_33) 65 growsFrom_34) z_n h0 (by show 1 ≤ z_n.toInt ∧ z_n.toInt ≤ 10; omega)) (gdV q_2105 q_2107 q_144 q_162 q_2108) hdV_X12_allRows ⟨rfl, rfl⟩ ⟨(Nat.le_of_ble_eq_true rfl), (Nat.le_of_ble_eq_true rfl)⟩ ⟨(Nat.le_of_ble_eq_true rfl), (Nat.le_of_ble_eq_true rfl)⟩ 12 rfl rfl rfl rfl hl3.1 rfl (Nat.le_of_ble_eq_true rfl) dX12_ask_35) (fun r_37 u_36 H1 locs hp hw38 => ?_)
      generalize H1 = H at hw38 ⊢
      have hw39 : WD D A s.heap (MW cI cJ M mr (upd mi 0 0) (va_up mf 55 gfarOf_32) (va_up (va_up mg 64 growsTo_33) 65 growsFrom_34)) H locs := hw38
      refine lv_lstore_n (pc := 38) (lv' := [(3, .long r_37), (0, .ref M), (1, .int z_n), (2, .int z_what)]) E.1 E.2.1 dX12_ask_38 rfl hl3 (by decide) rfl (fun ls hl40 => ?_)
      refine lv_iconst (pc := 39) (v := (-1)) E.1 E.2.1 dX12_ask_39 (by decide +kernel) ?_
      refine lv_istore (pc := 40) (lv' := [(5, .int (-1)), (3, .long r_37), (0, .ref M), (1, .int z_n), (2, .int z_what)]) E.1 E.2.1 dX12_ask_40 hl40 (by decide) rfl (fun ls hl41 => ?_)
      refine lv_lload_n (pc := 42) E.1 E.2.1 dX12_ask_42 rfl (lv_at hl41 1 rfl) ?_
      refine lv_lstore (pc := 43) (lv' := [(6, .long r_37), (5, .int (-1)), (3, .long r_37), (0, .ref M), (1, .int z_n), (2, .int z_what)]) E.1 E.2.1 dX12_ask_43 hl41 (by decide) rfl (fun ls hl42 => ?_)
      refine lv_iconst (pc := 45) (v := 0) E.1 E.2.1 dX12_ask_45 (by decide +kernel) ?_
      refine lv_istore (pc := 46) (lv' := [(8, .int 0), (6, .long r_37), (5, .int (-1)), (3, .long r_37), (0, .ref M), (1, .int z_n), (2, .int z_what)]) E.1 E.2.1 dX12_ask_46 hl42 (by decide) rfl (fun ls hl43 => ?_)
      have loop_44 : ∀ (k : Nat) (x_45 : Int32) (x_46 : Int32) (w_47 : Int64) (H : Heap) (locs : List Loc) (ls : Array Slot), (0 ≤ x_45.toInt) ∧ (x_45.toInt ≤ z_n.toInt) → z_n.toInt - x_45.toInt < (k : Int) → WD D A s.heap (MW cI cJ M mr (upd mi 0 0) (va_up mf 55 gfarOf_32) (va_up (va_up mg 64 growsTo_33) 65 growsFrom_34)) H locs → lv_has ls 14 [(8, .int x_45), (6, .long w_47), (5, .int x_46), (3, .long r_37), (0, .ref M), (1, .int z_n), (2, .int z_what)] → W p l e ({ frames := 5, cells := 0, slots := 0, locals := 131 } : Room) s m ([.ref M, .int z_n, .int z_what] : List Value).toArray below meth c H locs 0 0 (MQ below (va_Qi (fun (r : Int32) (u : Int32 × (Nat → Int32) × (Nat → Int64) × (Nat → Int64)) => True) (fun u => QW D cI cJ A ((fun (u : Int32 × (Nat → Int32) × (Nat → Int64) × (Nat → Int64)) => (MW cI cJ M mr (upd mi 0 u.1) (va_up mf 55 u.2.1) (va_up (va_up mg 64 u.2.2.1) 65 u.2.2.2))) u)) A) ([.ref M, .int z_n, .int z_what] : List Value).toArray s 0 0 A) (F0 m 48 ls []) := by
        intro k
        induction k with
        | zero =>
          intro x_45 x_46 w_47 _ _ _ hinv hm
          obtain ⟨hi_47_0, hi_47_1⟩ := hinv
          exact absurd hm (by omega)
        | succ k ih_48 =>
          intro x_45 x_46 w_47 H locs ls hinv hm hw49 hl50
          obtain ⟨hi_47_0, hi_47_1⟩ := hinv
          refine lv_iload (pc := 48) E.1 E.2.1 dX12_ask_48 (lv_at hl50 0 rfl) ?_
          refine lv_iload_n (pc := 50) E.1 E.2.1 dX12_ask_50 rfl (lv_at hl50 5 rfl) ?_
          refine lv_icmp_ge (pc := 51) (tgt := 146) E.1 E.2.1 dX12_ask_51 (by decide) (fun c_51 => ?_) (fun c_51 => ?_)
          · skip
            have hc_51 := leE (a := z_n.toInt) (b := x_45.toInt) rfl rfl c_51
            refine lv_iload (pc := 146) E.1 E.2.1 dX12_ask_146 (lv_at hl50 2 rfl) ?_
            refine lv_iconst (pc := 148) (v := (-1)) E.1 E.2.1 dX12_ask_148 (by decide +kernel) ?_
            refine lv_icmp_ne (pc := 149) (tgt := 156) E.1 E.2.1 dX12_ask_149 (by decide) (fun c_52 => ?_) (fun c_52 => ?_)
            · skip
              have hc_52 := neE (a := x_46.toInt) (b := (-1)) rfl (by decide +kernel) c_52
              refine lv_iload_n (pc := 156) E.1 E.2.1 dX12_ask_156 rfl (lv_at hl50 6 rfl) ?_
              refine lv_if_ne (pc := 157) (tgt := 168) E.1 E.2.1 dX12_ask_157 (by decide) (fun c_53 => ?_) (fun c_53 => ?_)
              · skip
                have hc_53 := neE (a := z_what.toInt) (b := 0) rfl (by decide +kernel) c_53
                refine lv_iload (pc := 168) E.1 E.2.1 dX12_ask_168 (lv_at hl50 2 rfl) ?_
                refine lv_bipush (pc := 170) (v := 10) E.1 E.2.1 dX12_ask_170 (by decide +kernel) ?_
                refine lv_irem (pc := 172) E.1 E.2.1 dX12_ask_172 (by decide +kernel) ?_
                refine lv_topi (fun v_54 ev_54 => ?_)
                exact em_i (w1 := (fun (u : Int32 × (Nat → Int32) × (Nat → Int64) × (Nat → Int64)) => (MW cI cJ M mr (upd mi 0 u.1) (va_up mf 55 u.2.1) (va_up (va_up mg 64 u.2.2.1) 65 u.2.2.2)))) E hr hlk (0, gfarOf_32, growsTo_33, growsFrom_34) hw49 trivial (Nat.le_of_ble_eq_true rfl) (Nat.le_of_ble_eq_true rfl) dX12_ask_173
              · skip
                have hc_53 := eqE (a := z_what.toInt) (b := 0) rfl (by decide +kernel) c_53
                refine lv_iload (pc := 160) E.1 E.2.1 dX12_ask_160 (lv_at hl50 2 rfl) ?_
                refine lv_bipush (pc := 162) (v := 10) E.1 E.2.1 dX12_ask_162 (by decide +kernel) ?_
                refine lv_idiv (pc := 164) E.1 E.2.1 dX12_ask_164 (by decide +kernel) ?_
                refine lv_topi (fun v_55 ev_55 => ?_)
                refine lv_goto (pc := 165) (tgt := 173) E.1 E.2.1 dX12_ask_165 (by decide) ?_
                exact em_i (w1 := (fun (u : Int32 × (Nat → Int32) × (Nat → Int64) × (Nat → Int64)) => (MW cI cJ M mr (upd mi 0 u.1) (va_up mf 55 u.2.1) (va_up (va_up mg 64 u.2.2.1) 65 u.2.2.2)))) E hr hlk (0, gfarOf_32, growsTo_33, growsFrom_34) hw49 trivial (Nat.le_of_ble_eq_true rfl) (Nat.le_of_ble_eq_true rfl) dX12_ask_173
            · skip
              have hc_52 := eqE (a := x_46.toInt) (b := (-1)) rfl (by decide +kernel) c_52
              refine lv_iconst (pc := 152) (v := (-1)) E.1 E.2.1 dX12_ask_152 (by decide +kernel) ?_
              refine lv_goto (pc := 153) (tgt := 173) E.1 E.2.1 dX12_ask_153 (by decide) ?_
              exact em_i (w1 := (fun (u : Int32 × (Nat → Int32) × (Nat → Int64) × (Nat → Int64)) => (MW cI cJ M mr (upd mi 0 u.1) (va_up mf 55 u.2.1) (va_up (va_up mg 64 u.2.2.1) 65 u.2.2.2)))) E hr hlk (0, gfarOf_32, growsTo_33, growsFrom_34) hw49 trivial (Nat.le_of_ble_eq_true rfl) (Nat.le_of_ble_eq_true rfl) dX12_ask_173
          · skip
            have hc_51 := nleE (a := z_n.toInt) (b := x_45.toInt) rfl rfl c_51
            refine lv_lload_n (pc := 54) E.1 E.2.1 dX12_ask_54 rfl (lv_at hl50 3 rfl) ?_
            refine lv_lconst (pc := 55) (v := 0) E.1 E.2.1 dX12_ask_55 (by decide +kernel) ?_
            refine W.lcmp (pc := 56) E.1 E.2.1 dX12_ask_56 ?_
            refine lv_topi (fun v_56 ev_56 => ?_)
            refine lv_if_le (pc := 57) (tgt := 146) E.1 E.2.1 dX12_ask_57 (by decide) (fun c_57 => ?_) (fun c_57 => ?_)
            · skip
              have hc_57 := leE (a := v_56.toInt) (b := 0) rfl (by decide +kernel) c_57
              refine lv_iload (pc := 146) E.1 E.2.1 dX12_ask_146 (lv_at hl50 2 rfl) ?_
              refine lv_iconst (pc := 148) (v := (-1)) E.1 E.2.1 dX12_ask_148 (by decide +kernel) ?_
              refine lv_icmp_ne (pc := 149) (tgt := 156) E.1 E.2.1 dX12_ask_149 (by decide) (fun c_58 => ?_) (fun c_58 => ?_)
              · skip
                have hc_58 := neE (a := x_46.toInt) (b := (-1)) rfl (by decide +kernel) c_58
                refine lv_iload_n (pc := 156) E.1 E.2.1 dX12_ask_156 rfl (lv_at hl50 6 rfl) ?_
                refine lv_if_ne (pc := 157) (tgt := 168) E.1 E.2.1 dX12_ask_157 (by decide) (fun c_59 => ?_) (fun c_59 => ?_)
                · skip
                  have hc_59 := neE (a := z_what.toInt) (b := 0) rfl (by decide +kernel) c_59
                  refine lv_iload (pc := 168) E.1 E.2.1 dX12_ask_168 (lv_at hl50 2 rfl) ?_
                  refine lv_bipush (pc := 170) (v := 10) E.1 E.2.1 dX12_ask_170 (by decide +kernel) ?_
                  refine lv_irem (pc := 172) E.1 E.2.1 dX12_ask_172 (by decide +kernel) ?_
                  refine lv_topi (fun v_60 ev_60 => ?_)
                  exact em_i (w1 := (fun (u : Int32 × (Nat → Int32) × (Nat → Int64) × (Nat → Int64)) => (MW cI cJ M mr (upd mi 0 u.1) (va_up mf 55 u.2.1) (va_up (va_up mg 64 u.2.2.1) 65 u.2.2.2)))) E hr hlk (0, gfarOf_32, growsTo_33, growsFrom_34) hw49 trivial (Nat.le_of_ble_eq_true rfl) (Nat.le_of_ble_eq_true rfl) dX12_ask_173
                · skip
                  have hc_59 := eqE (a := z_what.toInt) (b := 0) rfl (by decide +kernel) c_59
                  refine lv_iload (pc := 160) E.1 E.2.1 dX12_ask_160 (lv_at hl50 2 rfl) ?_
                  refine lv_bipush (pc := 162) (v := 10) E.1 E.2.1 dX12_ask_162 (by decide +kernel) ?_
                  refine lv_idiv (pc := 164) E.1 E.2.1 dX12_ask_164 (by decide +kernel) ?_
                  refine lv_topi (fun v_61 ev_61 => ?_)
                  refine lv_goto (pc := 165) (tgt := 173) E.1 E.2.1 dX12_ask_165 (by decide) ?_
                  exact em_i (w1 := (fun (u : Int32 × (Nat → Int32) × (Nat → Int64) × (Nat → Int64)) => (MW cI cJ M mr (upd mi 0 u.1) (va_up mf 55 u.2.1) (va_up (va_up mg 64 u.2.2.1) 65 u.2.2.2)))) E hr hlk (0, gfarOf_32, growsTo_33, growsFrom_34) hw49 trivial (Nat.le_of_ble_eq_true rfl) (Nat.le_of_ble_eq_true rfl) dX12_ask_173
              · skip
                have hc_58 := eqE (a := x_46.toInt) (b := (-1)) rfl (by decide +kernel) c_58
                refine lv_iconst (pc := 152) (v := (-1)) E.1 E.2.1 dX12_ask_152 (by decide +kernel) ?_
                refine lv_goto (pc := 153) (tgt := 173) E.1 E.2.1 dX12_ask_153 (by decide) ?_
                exact em_i (w1 := (fun (u : Int32 × (Nat → Int32) × (Nat → Int64) × (Nat → Int64)) => (MW cI cJ M mr (upd mi 0 u.1) (va_up mf 55 u.2.1) (va_up (va_up mg 64 u.2.2.1) 65 u.2.2.2)))) E hr hlk (0, gfarOf_32, growsTo_33, growsFrom_34) hw49 trivial (Nat.le_of_ble_eq_true rfl) (Nat.le_of_ble_eq_true rfl) dX12_ask_173
            · skip
              have hc_57 := nleE (a := v_56.toInt) (b := 0) rfl (by decide +kernel) c_57
              refine lv_iconst (pc := 60) (v := 0) E.1 E.2.1 dX12_ask_60 (by decide +kernel) ?_
              refine lv_istore (pc := 61) (lv' := [(9, .int 0), (8, .int x_45), (6, .long w_47), (5, .int x_46), (3, .long r_37), (0, .ref M), (1, .int z_n), (2, .int z_what)]) E.1 E.2.1 dX12_ask_61 hl50 (by decide) rfl (fun ls hl62 => ?_)
              have loop_63 : ∀ (k : Nat) (x_64 : Int32) (x_65 : Int32) (w_66 : Int64) (H : Heap) (locs : List Loc) (ls : Array Slot), (0 ≤ x_64.toInt) ∧ (x_64.toInt ≤ (mi 6).toInt) → (mi 6).toInt - x_64.toInt < (k : Int) → WD D A s.heap (MW cI cJ M mr (upd mi 0 0) (va_up mf 55 gfarOf_32) (va_up (va_up mg 64 growsTo_33) 65 growsFrom_34)) H locs → lv_has ls 14 [(9, .int x_64), (8, .int x_45), (6, .long w_66), (5, .int x_65), (3, .long r_37), (0, .ref M), (1, .int z_n), (2, .int z_what)] → W p l e ({ frames := 5, cells := 0, slots := 0, locals := 131 } : Room) s m ([.ref M, .int z_n, .int z_what] : List Value).toArray below meth c H locs 0 0 (MQ below (va_Qi (fun (r : Int32) (u : Int32 × (Nat → Int32) × (Nat → Int64) × (Nat → Int64)) => True) (fun u => QW D cI cJ A ((fun (u : Int32 × (Nat → Int32) × (Nat → Int64) × (Nat → Int64)) => (MW cI cJ M mr (upd mi 0 u.1) (va_up mf 55 u.2.1) (va_up (va_up mg 64 u.2.2.1) 65 u.2.2.2))) u)) A) ([.ref M, .int z_n, .int z_what] : List Value).toArray s 0 0 A) (F0 m 63 ls []) := by
                intro k
                induction k with
                | zero =>
                  intro x_64 x_65 w_66 _ _ _ hinv hm
                  obtain ⟨hi_66_0, hi_66_1⟩ := hinv
                  exact absurd hm (by omega)
                | succ k ih_67 =>
                  intro x_64 x_65 w_66 H locs ls hinv hm hw68 hl69
                  obtain ⟨hi_66_0, hi_66_1⟩ := hinv
                  refine lv_iload (pc := 63) E.1 E.2.1 dX12_ask_63 (lv_at hl69 0 rfl) ?_
                  refine lv_aload_n (pc := 65) E.1 E.2.1 dX12_ask_65 rfl (lv_at hl69 5 rfl) ?_
                  refine x_get (pc := 66) (T := TX12) (N := 70) (ci := 12) (v := .int (mi 6)) E hw68 inX12 0 6 q_1405 rfl rfl (by decide) rfl rfl dX12_ask_66 ?_
                  refine lv_icmp_ge (pc := 69) (tgt := 140) E.1 E.2.1 dX12_ask_69 (by decide) (fun c_70 => ?_) (fun c_70 => ?_)
                  · skip
                    have hc_70 := leE (a := (mi 6).toInt) (b := x_64.toInt) rfl rfl c_70
                    obtain ⟨v_71, ev_71⟩ : ∃ z : Int32, x_45 + Int32.ofInt (1) = z := ⟨_, rfl⟩
                    have hv_71 : v_71.toInt = x_45.toInt + (1) := by rw [← ev_71]; exact incE rfl (by decide) (by omega)
                    refine lv_iinc (pc := 140) (v := v_71) (lv' := [(8, .int v_71), (9, .int x_64), (6, .long w_66), (5, .int x_65), (3, .long r_37), (0, .ref M), (1, .int z_n), (2, .int z_what)]) E.1 E.2.1 dX12_ask_140 hl69 (k := 1) rfl ev_71 (by decide) rfl (fun ls hl72 => ?_)
                    refine lv_goto (pc := 143) (tgt := 48) E.1 E.2.1 dX12_ask_143 (by decide) ?_
                    exact ih_48 v_71 x_65 w_66 _ _ _ ⟨(by show 0 ≤ v_71.toInt; omega), (by show v_71.toInt ≤ z_n.toInt; omega)⟩ (by omega) hw68 (lv_sub hl72 [0, 2, 3, 4, 5, 6, 7] rfl)
                  · skip
                    have hc_70 := nleE (a := (mi 6).toInt) (b := x_64.toInt) rfl rfl c_70
                    refine lv_aload_n (pc := 72) E.1 E.2.1 dX12_ask_72 rfl (lv_at hl69 5 rfl) ?_
                    refine lv_iload (pc := 73) E.1 E.2.1 dX12_ask_73 (lv_at hl69 1 rfl) ?_
                    refine lv_iload (pc := 75) E.1 E.2.1 dX12_ask_75 (lv_at hl69 0 rfl) ?_
                    refine cm_l (pc := 77) hw68 (rn_M (As := [.int x_45, .int x_64]) (rest := []) E hw68 (s_rowsBy l D cI cJ _ M mr (upd mi 0 0) (va_up mf 55 gfarOf_32) (va_up (va_up mg 64 growsTo_33) 65 growsFrom_34) x_45 x_64 (by show 0 ≤ x_45.toInt ∧ x_45.toInt ≤ 9; omega) (by show 0 ≤ x_64.toInt ∧ x_64.toInt ≤ 9; omega)) (gdV q_2113 q_2115 q_145 q_162 q_2116) hdV_X12_rowsBy ⟨rfl, rfl⟩ ⟨(Nat.le_of_ble_eq_true rfl), (Nat.le_of_ble_eq_true rfl)⟩ ⟨(Nat.le_of_ble_eq_true rfl), (Nat.le_of_ble_eq_true rfl)⟩ 12 rfl rfl rfl rfl hl69.1 rfl (Nat.le_of_ble_eq_true rfl) dX12_ask_77) (fun r_74 u_73 H1 locs hp hw75 => ?_)
                    generalize H1 = H at hw75 ⊢
                    have hw76 : WD D A s.heap (MW cI cJ M mr (upd mi 0 0) (va_up mf 55 gfarOf_32) (va_up (va_up mg 64 growsTo_33) 65 growsFrom_34)) H locs := hw75
                    refine lv_lstore (pc := 80) (lv' := [(10, .long r_74), (9, .int x_64), (8, .int x_45), (6, .long w_66), (5, .int x_65), (3, .long r_37), (0, .ref M), (1, .int z_n), (2, .int z_what)]) E.1 E.2.1 dX12_ask_80 hl69 (by decide) rfl (fun ls hl77 => ?_)
                    refine lv_lload (pc := 82) E.1 E.2.1 dX12_ask_82 (lv_at hl77 0 rfl) ?_
                    refine lv_lload_n (pc := 84) E.1 E.2.1 dX12_ask_84 rfl (lv_at hl77 5 rfl) ?_
                    refine lv_lload (pc := 85) E.1 E.2.1 dX12_ask_85 (lv_at hl77 0 rfl) ?_
                    refine lv_lsub (pc := 87) E.1 E.2.1 dX12_ask_87 ?_
                    refine lv_topl (fun w_78 _ => ?_)
                    refine W.lcmp (pc := 88) E.1 E.2.1 dX12_ask_88 ?_
                    refine lv_topi (fun v_79 ev_79 => ?_)
                    refine lv_if_le (pc := 89) (tgt := 97) E.1 E.2.1 dX12_ask_89 (by decide) (fun c_80 => ?_) (fun c_80 => ?_)
                    · skip
                      have hc_80 := leE (a := v_79.toInt) (b := 0) rfl (by decide +kernel) c_80
                      refine lv_lload_n (pc := 97) E.1 E.2.1 dX12_ask_97 rfl (lv_at hl77 5 rfl) ?_
                      refine lv_lload (pc := 98) E.1 E.2.1 dX12_ask_98 (lv_at hl77 0 rfl) ?_
                      refine lv_lsub (pc := 100) E.1 E.2.1 dX12_ask_100 ?_
                      refine lv_topl (fun w_81 _ => ?_)
                      refine lv_lstore (pc := 101) (lv' := [(12, .long w_81), (10, .long r_74), (9, .int x_64), (8, .int x_45), (6, .long w_66), (5, .int x_65), (3, .long r_37), (0, .ref M), (1, .int z_n), (2, .int z_what)]) E.1 E.2.1 dX12_ask_101 hl77 (by decide) rfl (fun ls hl82 => ?_)
                      refine lv_iload (pc := 103) E.1 E.2.1 dX12_ask_103 (lv_at hl82 5 rfl) ?_
                      refine lv_iconst (pc := 105) (v := (-1)) E.1 E.2.1 dX12_ask_105 (by decide +kernel) ?_
                      refine lv_icmp_eq (pc := 106) (tgt := 120) E.1 E.2.1 dX12_ask_106 (by decide) (fun c_83 => ?_) (fun c_83 => ?_)
                      · skip
                        have hc_83 := eqE (a := x_65.toInt) (b := (-1)) rfl (by decide +kernel) c_83
                        refine lv_bipush (pc := 120) (v := 10) E.1 E.2.1 dX12_ask_120 (by decide +kernel) ?_
                        refine lv_iload (pc := 122) E.1 E.2.1 dX12_ask_122 (lv_at hl82 3 rfl) ?_
                        refine lv_imul (pc := 124) E.1 E.2.1 dX12_ask_124 ?_
                        refine lv_topi (fun v_84 ev_84 => ?_)
                        have hv_84 : v_84.toInt = 10 * x_45.toInt := by rw [ev_84]; exact mulE (by decide +kernel) rfl (by omega)
                        refine lv_iload (pc := 125) E.1 E.2.1 dX12_ask_125 (lv_at hl82 2 rfl) ?_
                        refine lv_iadd (pc := 127) E.1 E.2.1 dX12_ask_127 ?_
                        refine lv_topi (fun v_85 ev_85 => ?_)
                        have hv_85 : v_85.toInt = v_84.toInt + x_64.toInt := by rw [ev_85]; exact addE rfl rfl (by omega)
                        refine lv_istore (pc := 128) (lv' := [(5, .int v_85), (12, .long w_81), (10, .long r_74), (9, .int x_64), (8, .int x_45), (6, .long w_66), (3, .long r_37), (0, .ref M), (1, .int z_n), (2, .int z_what)]) E.1 E.2.1 dX12_ask_128 hl82 (by decide) rfl (fun ls hl86 => ?_)
                        refine lv_lload (pc := 130) E.1 E.2.1 dX12_ask_130 (lv_at hl86 1 rfl) ?_
                        refine lv_lstore (pc := 132) (lv' := [(6, .long w_81), (5, .int v_85), (12, .long w_81), (10, .long r_74), (9, .int x_64), (8, .int x_45), (3, .long r_37), (0, .ref M), (1, .int z_n), (2, .int z_what)]) E.1 E.2.1 dX12_ask_132 hl86 (by decide) rfl (fun ls hl87 => ?_)
                        obtain ⟨v_88, ev_88⟩ : ∃ z : Int32, x_64 + Int32.ofInt (1) = z := ⟨_, rfl⟩
                        have hv_88 : v_88.toInt = x_64.toInt + (1) := by rw [← ev_88]; exact incE rfl (by decide) (by omega)
                        refine lv_iinc (pc := 134) (v := v_88) (lv' := [(9, .int v_88), (6, .long w_81), (5, .int v_85), (12, .long w_81), (10, .long r_74), (8, .int x_45), (3, .long r_37), (0, .ref M), (1, .int z_n), (2, .int z_what)]) E.1 E.2.1 dX12_ask_134 hl87 (k := 4) rfl ev_88 (by decide) rfl (fun ls hl89 => ?_)
                        refine lv_goto (pc := 137) (tgt := 63) E.1 E.2.1 dX12_ask_137 (by decide) ?_
                        exact ih_67 v_88 v_85 w_81 _ _ _ ⟨(by show 0 ≤ v_88.toInt; omega), (by show v_88.toInt ≤ (mi 6).toInt; omega)⟩ (by omega) hw76 (lv_sub hl89 [0, 5, 1, 2, 6, 7, 8, 9] rfl)
                      · skip
                        have hc_83 := neE (a := x_65.toInt) (b := (-1)) rfl (by decide +kernel) c_83
                        refine lv_lload (pc := 109) E.1 E.2.1 dX12_ask_109 (lv_at hl82 0 rfl) ?_
                        refine lv_lload (pc := 111) E.1 E.2.1 dX12_ask_111 (lv_at hl82 4 rfl) ?_
                        refine W.lcmp (pc := 113) E.1 E.2.1 dX12_ask_113 ?_
                        refine lv_topi (fun v_90 ev_90 => ?_)
                        refine lv_if_lt (pc := 114) (tgt := 120) E.1 E.2.1 dX12_ask_114 (by decide) (fun c_91 => ?_) (fun c_91 => ?_)
                        · skip
                          have hc_91 := ltE (a := v_90.toInt) (b := 0) rfl (by decide +kernel) c_91
                          refine lv_bipush (pc := 120) (v := 10) E.1 E.2.1 dX12_ask_120 (by decide +kernel) ?_
                          refine lv_iload (pc := 122) E.1 E.2.1 dX12_ask_122 (lv_at hl82 3 rfl) ?_
                          refine lv_imul (pc := 124) E.1 E.2.1 dX12_ask_124 ?_
                          refine lv_topi (fun v_92 ev_92 => ?_)
                          have hv_92 : v_92.toInt = 10 * x_45.toInt := by rw [ev_92]; exact mulE (by decide +kernel) rfl (by omega)
                          refine lv_iload (pc := 125) E.1 E.2.1 dX12_ask_125 (lv_at hl82 2 rfl) ?_
                          refine lv_iadd (pc := 127) E.1 E.2.1 dX12_ask_127 ?_
                          refine lv_topi (fun v_93 ev_93 => ?_)
                          have hv_93 : v_93.toInt = v_92.toInt + x_64.toInt := by rw [ev_93]; exact addE rfl rfl (by omega)
                          refine lv_istore (pc := 128) (lv' := [(5, .int v_93), (12, .long w_81), (10, .long r_74), (9, .int x_64), (8, .int x_45), (6, .long w_66), (3, .long r_37), (0, .ref M), (1, .int z_n), (2, .int z_what)]) E.1 E.2.1 dX12_ask_128 hl82 (by decide) rfl (fun ls hl94 => ?_)
                          refine lv_lload (pc := 130) E.1 E.2.1 dX12_ask_130 (lv_at hl94 1 rfl) ?_
                          refine lv_lstore (pc := 132) (lv' := [(6, .long w_81), (5, .int v_93), (12, .long w_81), (10, .long r_74), (9, .int x_64), (8, .int x_45), (3, .long r_37), (0, .ref M), (1, .int z_n), (2, .int z_what)]) E.1 E.2.1 dX12_ask_132 hl94 (by decide) rfl (fun ls hl95 => ?_)
                          obtain ⟨v_96, ev_96⟩ : ∃ z : Int32, x_64 + Int32.ofInt (1) = z := ⟨_, rfl⟩
                          have hv_96 : v_96.toInt = x_64.toInt + (1) := by rw [← ev_96]; exact incE rfl (by decide) (by omega)
                          refine lv_iinc (pc := 134) (v := v_96) (lv' := [(9, .int v_96), (6, .long w_81), (5, .int v_93), (12, .long w_81), (10, .long r_74), (8, .int x_45), (3, .long r_37), (0, .ref M), (1, .int z_n), (2, .int z_what)]) E.1 E.2.1 dX12_ask_134 hl95 (k := 4) rfl ev_96 (by decide) rfl (fun ls hl97 => ?_)
                          refine lv_goto (pc := 137) (tgt := 63) E.1 E.2.1 dX12_ask_137 (by decide) ?_
                          exact ih_67 v_96 v_93 w_81 _ _ _ ⟨(by show 0 ≤ v_96.toInt; omega), (by show v_96.toInt ≤ (mi 6).toInt; omega)⟩ (by omega) hw76 (lv_sub hl97 [0, 5, 1, 2, 6, 7, 8, 9] rfl)
                        · skip
                          have hc_91 := nltE (a := v_90.toInt) (b := 0) rfl (by decide +kernel) c_91
                          refine lv_goto (pc := 117) (tgt := 134) E.1 E.2.1 dX12_ask_117 (by decide) ?_
                          obtain ⟨v_98, ev_98⟩ : ∃ z : Int32, x_64 + Int32.ofInt (1) = z := ⟨_, rfl⟩
                          have hv_98 : v_98.toInt = x_64.toInt + (1) := by rw [← ev_98]; exact incE rfl (by decide) (by omega)
                          refine lv_iinc (pc := 134) (v := v_98) (lv' := [(9, .int v_98), (12, .long w_81), (10, .long r_74), (8, .int x_45), (6, .long w_66), (5, .int x_65), (3, .long r_37), (0, .ref M), (1, .int z_n), (2, .int z_what)]) E.1 E.2.1 dX12_ask_134 hl82 (k := 2) rfl ev_98 (by decide) rfl (fun ls hl99 => ?_)
                          refine lv_goto (pc := 137) (tgt := 63) E.1 E.2.1 dX12_ask_137 (by decide) ?_
                          exact ih_67 v_98 x_65 w_66 _ _ _ ⟨(by show 0 ≤ v_98.toInt; omega), (by show v_98.toInt ≤ (mi 6).toInt; omega)⟩ (by omega) hw76 (lv_sub hl99 [0, 3, 4, 5, 6, 7, 8, 9] rfl)
                    · skip
                      have hc_80 := nleE (a := v_79.toInt) (b := 0) rfl (by decide +kernel) c_80
                      refine lv_lload (pc := 92) E.1 E.2.1 dX12_ask_92 (lv_at hl77 0 rfl) ?_
                      refine lv_goto (pc := 94) (tgt := 101) E.1 E.2.1 dX12_ask_94 (by decide) ?_
                      refine lv_lstore (pc := 101) (lv' := [(12, .long r_74), (10, .long r_74), (9, .int x_64), (8, .int x_45), (6, .long w_66), (5, .int x_65), (3, .long r_37), (0, .ref M), (1, .int z_n), (2, .int z_what)]) E.1 E.2.1 dX12_ask_101 hl77 (by decide) rfl (fun ls hl100 => ?_)
                      refine lv_iload (pc := 103) E.1 E.2.1 dX12_ask_103 (lv_at hl100 5 rfl) ?_
                      refine lv_iconst (pc := 105) (v := (-1)) E.1 E.2.1 dX12_ask_105 (by decide +kernel) ?_
                      refine lv_icmp_eq (pc := 106) (tgt := 120) E.1 E.2.1 dX12_ask_106 (by decide) (fun c_101 => ?_) (fun c_101 => ?_)
                      · skip
                        have hc_101 := eqE (a := x_65.toInt) (b := (-1)) rfl (by decide +kernel) c_101
                        refine lv_bipush (pc := 120) (v := 10) E.1 E.2.1 dX12_ask_120 (by decide +kernel) ?_
                        refine lv_iload (pc := 122) E.1 E.2.1 dX12_ask_122 (lv_at hl100 3 rfl) ?_
                        refine lv_imul (pc := 124) E.1 E.2.1 dX12_ask_124 ?_
                        refine lv_topi (fun v_102 ev_102 => ?_)
                        have hv_102 : v_102.toInt = 10 * x_45.toInt := by rw [ev_102]; exact mulE (by decide +kernel) rfl (by omega)
                        refine lv_iload (pc := 125) E.1 E.2.1 dX12_ask_125 (lv_at hl100 2 rfl) ?_
                        refine lv_iadd (pc := 127) E.1 E.2.1 dX12_ask_127 ?_
                        refine lv_topi (fun v_103 ev_103 => ?_)
                        have hv_103 : v_103.toInt = v_102.toInt + x_64.toInt := by rw [ev_103]; exact addE rfl rfl (by omega)
                        refine lv_istore (pc := 128) (lv' := [(5, .int v_103), (12, .long r_74), (10, .long r_74), (9, .int x_64), (8, .int x_45), (6, .long w_66), (3, .long r_37), (0, .ref M), (1, .int z_n), (2, .int z_what)]) E.1 E.2.1 dX12_ask_128 hl100 (by decide) rfl (fun ls hl104 => ?_)
                        refine lv_lload (pc := 130) E.1 E.2.1 dX12_ask_130 (lv_at hl104 1 rfl) ?_
                        refine lv_lstore (pc := 132) (lv' := [(6, .long r_74), (5, .int v_103), (12, .long r_74), (10, .long r_74), (9, .int x_64), (8, .int x_45), (3, .long r_37), (0, .ref M), (1, .int z_n), (2, .int z_what)]) E.1 E.2.1 dX12_ask_132 hl104 (by decide) rfl (fun ls hl105 => ?_)
                        obtain ⟨v_106, ev_106⟩ : ∃ z : Int32, x_64 + Int32.ofInt (1) = z := ⟨_, rfl⟩
                        have hv_106 : v_106.toInt = x_64.toInt + (1) := by rw [← ev_106]; exact incE rfl (by decide) (by omega)
                        refine lv_iinc (pc := 134) (v := v_106) (lv' := [(9, .int v_106), (6, .long r_74), (5, .int v_103), (12, .long r_74), (10, .long r_74), (8, .int x_45), (3, .long r_37), (0, .ref M), (1, .int z_n), (2, .int z_what)]) E.1 E.2.1 dX12_ask_134 hl105 (k := 4) rfl ev_106 (by decide) rfl (fun ls hl107 => ?_)
                        refine lv_goto (pc := 137) (tgt := 63) E.1 E.2.1 dX12_ask_137 (by decide) ?_
                        exact ih_67 v_106 v_103 r_74 _ _ _ ⟨(by show 0 ≤ v_106.toInt; omega), (by show v_106.toInt ≤ (mi 6).toInt; omega)⟩ (by omega) hw76 (lv_sub hl107 [0, 5, 1, 2, 6, 7, 8, 9] rfl)
                      · skip
                        have hc_101 := neE (a := x_65.toInt) (b := (-1)) rfl (by decide +kernel) c_101
                        refine lv_lload (pc := 109) E.1 E.2.1 dX12_ask_109 (lv_at hl100 0 rfl) ?_
                        refine lv_lload (pc := 111) E.1 E.2.1 dX12_ask_111 (lv_at hl100 4 rfl) ?_
                        refine W.lcmp (pc := 113) E.1 E.2.1 dX12_ask_113 ?_
                        refine lv_topi (fun v_108 ev_108 => ?_)
                        refine lv_if_lt (pc := 114) (tgt := 120) E.1 E.2.1 dX12_ask_114 (by decide) (fun c_109 => ?_) (fun c_109 => ?_)
                        · skip
                          have hc_109 := ltE (a := v_108.toInt) (b := 0) rfl (by decide +kernel) c_109
                          refine lv_bipush (pc := 120) (v := 10) E.1 E.2.1 dX12_ask_120 (by decide +kernel) ?_
                          refine lv_iload (pc := 122) E.1 E.2.1 dX12_ask_122 (lv_at hl100 3 rfl) ?_
                          refine lv_imul (pc := 124) E.1 E.2.1 dX12_ask_124 ?_
                          refine lv_topi (fun v_110 ev_110 => ?_)
                          have hv_110 : v_110.toInt = 10 * x_45.toInt := by rw [ev_110]; exact mulE (by decide +kernel) rfl (by omega)
                          refine lv_iload (pc := 125) E.1 E.2.1 dX12_ask_125 (lv_at hl100 2 rfl) ?_
                          refine lv_iadd (pc := 127) E.1 E.2.1 dX12_ask_127 ?_
                          refine lv_topi (fun v_111 ev_111 => ?_)
                          have hv_111 : v_111.toInt = v_110.toInt + x_64.toInt := by rw [ev_111]; exact addE rfl rfl (by omega)
                          refine lv_istore (pc := 128) (lv' := [(5, .int v_111), (12, .long r_74), (10, .long r_74), (9, .int x_64), (8, .int x_45), (6, .long w_66), (3, .long r_37), (0, .ref M), (1, .int z_n), (2, .int z_what)]) E.1 E.2.1 dX12_ask_128 hl100 (by decide) rfl (fun ls hl112 => ?_)
                          refine lv_lload (pc := 130) E.1 E.2.1 dX12_ask_130 (lv_at hl112 1 rfl) ?_
                          refine lv_lstore (pc := 132) (lv' := [(6, .long r_74), (5, .int v_111), (12, .long r_74), (10, .long r_74), (9, .int x_64), (8, .int x_45), (3, .long r_37), (0, .ref M), (1, .int z_n), (2, .int z_what)]) E.1 E.2.1 dX12_ask_132 hl112 (by decide) rfl (fun ls hl113 => ?_)
                          obtain ⟨v_114, ev_114⟩ : ∃ z : Int32, x_64 + Int32.ofInt (1) = z := ⟨_, rfl⟩
                          have hv_114 : v_114.toInt = x_64.toInt + (1) := by rw [← ev_114]; exact incE rfl (by decide) (by omega)
                          refine lv_iinc (pc := 134) (v := v_114) (lv' := [(9, .int v_114), (6, .long r_74), (5, .int v_111), (12, .long r_74), (10, .long r_74), (8, .int x_45), (3, .long r_37), (0, .ref M), (1, .int z_n), (2, .int z_what)]) E.1 E.2.1 dX12_ask_134 hl113 (k := 4) rfl ev_114 (by decide) rfl (fun ls hl115 => ?_)
                          refine lv_goto (pc := 137) (tgt := 63) E.1 E.2.1 dX12_ask_137 (by decide) ?_
                          exact ih_67 v_114 v_111 r_74 _ _ _ ⟨(by show 0 ≤ v_114.toInt; omega), (by show v_114.toInt ≤ (mi 6).toInt; omega)⟩ (by omega) hw76 (lv_sub hl115 [0, 5, 1, 2, 6, 7, 8, 9] rfl)
                        · skip
                          have hc_109 := nltE (a := v_108.toInt) (b := 0) rfl (by decide +kernel) c_109
                          refine lv_goto (pc := 117) (tgt := 134) E.1 E.2.1 dX12_ask_117 (by decide) ?_
                          obtain ⟨v_116, ev_116⟩ : ∃ z : Int32, x_64 + Int32.ofInt (1) = z := ⟨_, rfl⟩
                          have hv_116 : v_116.toInt = x_64.toInt + (1) := by rw [← ev_116]; exact incE rfl (by decide) (by omega)
                          refine lv_iinc (pc := 134) (v := v_116) (lv' := [(9, .int v_116), (12, .long r_74), (10, .long r_74), (8, .int x_45), (6, .long w_66), (5, .int x_65), (3, .long r_37), (0, .ref M), (1, .int z_n), (2, .int z_what)]) E.1 E.2.1 dX12_ask_134 hl100 (k := 2) rfl ev_116 (by decide) rfl (fun ls hl117 => ?_)
                          refine lv_goto (pc := 137) (tgt := 63) E.1 E.2.1 dX12_ask_137 (by decide) ?_
                          exact ih_67 v_116 x_65 w_66 _ _ _ ⟨(by show 0 ≤ v_116.toInt; omega), (by show v_116.toInt ≤ (mi 6).toInt; omega)⟩ (by omega) hw76 (lv_sub hl117 [0, 3, 4, 5, 6, 7, 8, 9] rfl)
              exact loop_63 (Int.toNat ((mi 6).toInt - 0) + 1) 0 x_46 w_47 _ _ _ ⟨(by show 0 ≤ (0 : Int32).toInt; have k_0 : (0 : Int32).toInt = 0 := (by decide +kernel); omega), (by show (0 : Int32).toInt ≤ (mi 6).toInt; have k_0 : (0 : Int32).toInt = 0 := (by decide +kernel); omega)⟩ (by have k_0 : (0 : Int32).toInt = 0 := (by decide +kernel); omega) hw49 (lv_sub hl62 [0, 1, 2, 3, 4, 5, 6, 7] rfl)
      exact loop_44 (Int.toNat (z_n.toInt - 0) + 1) 0 (-1) r_37 _ _ _ ⟨(by show 0 ≤ (0 : Int32).toInt; have k_0 : (0 : Int32).toInt = 0 := (by decide +kernel); omega), (by show (0 : Int32).toInt ≤ z_n.toInt; have k_0 : (0 : Int32).toInt = 0 := (by decide +kernel); omega)⟩ (by have k_0 : (0 : Int32).toInt = 0 := (by decide +kernel); have k_1 : ((-1) : Int32).toInt = -1 := (by decide +kernel); omega) hw39 (lv_sub hl43 [0, 1, 2, 3, 4, 5, 6] rfl)

set_option maxHeartbeats 4000000 in
set_option maxRecDepth 100000 in
theorem s_keepsAhead (l : Launch) (D : va_G) (cI cJ : ClassId) (sz M : Nat) (mr : Nat → Nat) (mi : Nat → Int32) (mf : Nat → Nat → Int32) (mg : Nat → Nat → Int64)  (h0 : 0 ≤ (mi 3).toInt ∧ (mi 3).toInt ≤ 6) (h1 : 0 ≤ ((mf 1) 2).toInt ∧ ((mf 1) 2).toInt ≤ 150) (h2 : 0 ≤ ((mf 1) 3).toInt) (h3 : ((mf 1) 3).toInt + 1 ≤ (mi 6).toInt) (h4 : 0 ≤ ((mf 1) 5).toInt ∧ ((mf 1) 5).toInt ≤ 200) (lf_rows : rowsOK (mi 3).toInt (mi 6).toInt (mf 2)) : Met l yX12_keepsAhead (Cond.code yX12_keepsAhead cX12_keepsAhead 2 none :: GW) ({ frames := 1, cells := 0, slots := 0, locals := 40 } : Room) (va_Pc [.ref M] (PW D cI cJ sz (MW cI cJ M mr mi mf mg) xT)) (va_Qv (fun (u : Int32 × (Nat → Int32)) => (1 ≤ u.1.toInt ∧ u.1.toInt ≤ 6) ∧ (rowsOK u.1.toInt (mi 6).toInt u.2)) (fun u => QW D cI cJ (va_A (MW cI cJ M mr mi mf mg) sz) ((fun (u : Int32 × (Nat → Int32)) => (MW cI cJ M mr (upd mi 3 u.1) (va_up mf 2 u.2) mg)) u)) (va_A (MW cI cJ M mr mi mf mg) sz)) 0 0 (va_A (MW cI cJ M mr mi mf mg) sz) := by
  refine mk_met (y := yX12_keepsAhead) (bytes := cX12_keepsAhead) (maxL := 2) (avs := [.ref M]) (WS := (MW cI cJ M mr mi mf mg)) (Qf := fun A => va_Qv (fun (u : Int32 × (Nat → Int32)) => (1 ≤ u.1.toInt ∧ u.1.toInt ≤ 6) ∧ (rowsOK u.1.toInt (mi 6).toInt u.2)) (fun u => QW D cI cJ A ((fun (u : Int32 × (Nat → Int32)) => (MW cI cJ M mr (upd mi 3 u.1) (va_up mf 2 u.2) mg)) u)) A) (by decide) (Nat.le_of_ble_eq_true rfl) ?_
  intro p e s m below meth c A ls E hr hlk hnm hX hw1 hl2
  have hl3 : lv_has ls 2 [(0, .ref M)] := hl2
  refine lv_aload_n (pc := 0) E.1 E.2.1 dX12_keepsAhead_0 rfl (lv_at hl3 0 rfl) ?_
  refine x_get (pc := 1) (T := TX12) (N := 70) (ci := 12) (v := .int (mi 3)) E hw1 inX12 0 3 q_1402 rfl rfl (by decide) rfl rfl dX12_keepsAhead_1 ?_
  refine lv_bipush (pc := 4) (v := 6) E.1 E.2.1 dX12_keepsAhead_4 (by decide +kernel) ?_
  refine lv_icmp_ne (pc := 6) (tgt := 53) E.1 E.2.1 dX12_keepsAhead_6 (by decide) (fun c_4 => ?_) (fun c_4 => ?_)
  · skip
    have hc_4 := neE (a := (mi 3).toInt) (b := 6) rfl (by decide +kernel) c_4
    have hrk : rowsOK (mi 3).toInt (mi 6).toInt (mf 2) := lf_rows
    refine lv_iconst (pc := 53) (v := 0) E.1 E.2.1 dX12_keepsAhead_53 (by decide +kernel) ?_
    refine lv_istore_n (pc := 54) (lv' := [(1, .int 0), (0, .ref M)]) E.1 E.2.1 dX12_keepsAhead_54 rfl hl3 (by decide) rfl (fun ls hl5 => ?_)
    have loop_6 : ∀ (k : Nat) (x_7 : Int32) (g_8 : Nat → Int32) (H : Heap) (locs : List Loc) (ls : Array Slot), (0 ≤ x_7.toInt ∧ x_7.toInt ≤ 66) ∧ (KP g_8 (mf 2) (mf 1) (66 * (mi 3).toNatClampNeg) x_7.toInt) → 66 - x_7.toInt < (k : Int) → WD D A s.heap (MW cI cJ M mr mi (va_up mf 2 g_8) mg) H locs → lv_has ls 2 [(1, .int x_7), (0, .ref M)] → W p l e ({ frames := 1, cells := 0, slots := 0, locals := 40 } : Room) s m ([.ref M] : List Value).toArray below meth c H locs 0 0 (MQ below (va_Qv (fun (u : Int32 × (Nat → Int32)) => (1 ≤ u.1.toInt ∧ u.1.toInt ≤ 6) ∧ (rowsOK u.1.toInt (mi 6).toInt u.2)) (fun u => QW D cI cJ A ((fun (u : Int32 × (Nat → Int32)) => (MW cI cJ M mr (upd mi 3 u.1) (va_up mf 2 u.2) mg)) u)) A) ([.ref M] : List Value).toArray s 0 0 A) (F0 m 55 ls []) := by
      intro k
      induction k with
      | zero =>
        intro x_7 g_8 _ _ _ hinv hm
        obtain ⟨hi_8_0, hi_8_1⟩ := hinv
        exact absurd hm (by omega)
      | succ k ih_9 =>
        intro x_7 g_8 H locs ls hinv hm hw10 hl11
        obtain ⟨hi_8_0, hi_8_1⟩ := hinv
        refine lv_iload_n (pc := 55) E.1 E.2.1 dX12_keepsAhead_55 rfl (lv_at hl11 0 rfl) ?_
        refine lv_bipush (pc := 56) (v := 66) E.1 E.2.1 dX12_keepsAhead_56 (by decide +kernel) ?_
        refine lv_icmp_ge (pc := 58) (tgt := 87) E.1 E.2.1 dX12_keepsAhead_58 (by decide) (fun c_12 => ?_) (fun c_12 => ?_)
        · skip
          have hc_12 := leE (a := 66) (b := x_7.toInt) (by decide +kernel) rfl c_12
          have q9 := idxI (x := (mi 3)) (by omega)
          have hrz := rowsOK_KP hi_8_1 hrk (by omega) (by omega) (by omega) (by omega) (by omega)
          refine lv_aload_n (pc := 87) E.1 E.2.1 dX12_keepsAhead_87 rfl (lv_at hl11 1 rfl) ?_
          refine lv_aload_n (pc := 88) E.1 E.2.1 dX12_keepsAhead_88 rfl (lv_at hl11 1 rfl) ?_
          refine x_get (pc := 89) (T := TX12) (N := 70) (ci := 12) (v := .int (mi 3)) E hw10 inX12 0 3 q_1402 rfl rfl (by decide) rfl rfl dX12_keepsAhead_89 ?_
          refine lv_iconst (pc := 92) (v := 1) E.1 E.2.1 dX12_keepsAhead_92 (by decide +kernel) ?_
          refine lv_iadd (pc := 93) E.1 E.2.1 dX12_keepsAhead_93 ?_
          refine lv_topi (fun v_13 ev_13 => ?_)
          have hv_13 : v_13.toInt = (mi 3).toInt + 1 := by rw [ev_13]; exact addE rfl (by decide +kernel) (by omega)
          refine x_put (pc := 94) (T := TX12) (N := 70) (ci := 12) (ws' := (MW cI cJ M mr (upd mi 3 v_13) (va_up mf 2 g_8) mg)) E hw10 inX12 tyX12_ok nmX12 0 3 q_1402 rfl rfl (by decide) rfl rfl rfl rfl (Nat.le_of_ble_eq_true rfl) rfl dX12_keepsAhead_94 (fun H locs hw14 => ?_)
          exact em_v (w1 := (fun (u : Int32 × (Nat → Int32)) => (MW cI cJ M mr (upd mi 3 u.1) (va_up mf 2 u.2) mg))) E hr hlk (v_13, g_8) hw14 ⟨(by show 1 ≤ v_13.toInt ∧ v_13.toInt ≤ 6; omega), (show rowsOK v_13.toInt (mi 6).toInt g_8 from (by have q8 := hrz; rwa [show (mi 3).toInt + 1 = v_13.toInt from by omega] at q8))⟩ (Nat.le_of_ble_eq_true rfl) (Nat.le_of_ble_eq_true rfl) dX12_keepsAhead_97
        · skip
          have hc_12 := nleE (a := 66) (b := x_7.toInt) (by decide +kernel) rfl c_12
          refine lv_aload_n (pc := 61) E.1 E.2.1 dX12_keepsAhead_61 rfl (lv_at hl11 1 rfl) ?_
          refine x_get (pc := 62) (T := TX12) (N := 70) (ci := 12) (v := .ref (mr 2)) E hw10 inX12 0 2 q_1401 rfl rfl (by decide) rfl rfl dX12_keepsAhead_62 ?_
          refine lv_bipush (pc := 65) (v := 66) E.1 E.2.1 dX12_keepsAhead_65 (by decide +kernel) ?_
          refine lv_aload_n (pc := 67) E.1 E.2.1 dX12_keepsAhead_67 rfl (lv_at hl11 1 rfl) ?_
          refine x_get (pc := 68) (T := TX12) (N := 70) (ci := 12) (v := .int (mi 3)) E hw10 inX12 0 3 q_1402 rfl rfl (by decide) rfl rfl dX12_keepsAhead_68 ?_
          refine lv_imul (pc := 71) E.1 E.2.1 dX12_keepsAhead_71 ?_
          refine lv_topi (fun v_15 ev_15 => ?_)
          have hv_15 : v_15.toInt = 66 * (mi 3).toInt := by rw [ev_15]; exact mulE (by decide +kernel) rfl (by omega)
          refine lv_iload_n (pc := 72) E.1 E.2.1 dX12_keepsAhead_72 rfl (lv_at hl11 0 rfl) ?_
          refine lv_iadd (pc := 73) E.1 E.2.1 dX12_keepsAhead_73 ?_
          refine lv_topi (fun v_16 ev_16 => ?_)
          have hv_16 : v_16.toInt = v_15.toInt + x_7.toInt := by rw [ev_16]; exact addE rfl rfl (by omega)
          refine lv_aload_n (pc := 74) E.1 E.2.1 dX12_keepsAhead_74 rfl (lv_at hl11 1 rfl) ?_
          refine x_get (pc := 75) (T := TX12) (N := 70) (ci := 12) (v := .ref (mr 1)) E hw10 inX12 0 1 q_1400 rfl rfl (by decide) rfl rfl dX12_keepsAhead_75 ?_
          refine lv_iload_n (pc := 78) E.1 E.2.1 dX12_keepsAhead_78 rfl (lv_at hl11 0 rfl) ?_
          refine x_iald (pc := 79) (f := (mf 1)) E hw10 1 rfl (inbE (a := x_7.toInt) rfl (by omega)) dX12_keepsAhead_79 ?_
          refine lv_topi (fun v_17 ev_17 => ?_)
          refine x_iastG (pc := 80) (f := g_8) (wf := fun g => (MW cI cJ M mr mi (va_up mf 2 g) mg)) E hw10 2 rfl (inbE (a := v_16.toInt) rfl (by omega)) (fun _ => rfl) dX12_keepsAhead_80 (fun g_18 H locs eg_18 hw19 => ?_)
          obtain ⟨v_20, ev_20⟩ : ∃ z : Int32, x_7 + Int32.ofInt (1) = z := ⟨_, rfl⟩
          have hv_20 : v_20.toInt = x_7.toInt + (1) := by rw [← ev_20]; exact incE rfl (by decide) (by omega)
          refine lv_iinc (pc := 81) (v := v_20) (lv' := [(1, .int v_20), (0, .ref M)]) E.1 E.2.1 dX12_keepsAhead_81 hl11 (k := 0) rfl ev_20 (by decide) rfl (fun ls hl21 => ?_)
          refine lv_goto (pc := 84) (tgt := 55) E.1 E.2.1 dX12_keepsAhead_84 (by decide) ?_
          exact ih_9 v_20 g_18 _ _ _ ⟨(by show 0 ≤ v_20.toInt ∧ v_20.toInt ≤ 66; omega), (KP_step (i := x_7) (j := v_20) hi_8_1 eg_18 ev_17 (by have q9 := idxI (x := (mi 3)) (by omega); omega) (by omega) (by omega) (by omega))⟩ (by omega) hw19 (lv_sub hl21 [0, 1] rfl)
    exact loop_6 (Int.toNat (66 - 0) + 1) 0 (mf 2) _ _ _ ⟨(by show 0 ≤ (0 : Int32).toInt ∧ (0 : Int32).toInt ≤ 66; have k_0 : (0 : Int32).toInt = 0 := (by decide +kernel); omega), (KP_nil (by decide +kernel))⟩ (by have k_0 : (0 : Int32).toInt = 0 := (by decide +kernel); omega) hw1 (lv_sub hl5 [0, 1] rfl)
  · skip
    have hc_4 := eqE (a := (mi 3).toInt) (b := 6) rfl (by decide +kernel) c_4
    refine lv_aload_n (pc := 9) E.1 E.2.1 dX12_keepsAhead_9 rfl (lv_at hl3 0 rfl) ?_
    refine lv_aload_n (pc := 10) E.1 E.2.1 dX12_keepsAhead_10 rfl (lv_at hl3 0 rfl) ?_
    refine x_get (pc := 11) (T := TX12) (N := 70) (ci := 12) (v := .int (mi 3)) E hw1 inX12 0 3 q_1402 rfl rfl (by decide) rfl rfl dX12_keepsAhead_11 ?_
    refine lv_iconst (pc := 14) (v := 1) E.1 E.2.1 dX12_keepsAhead_14 (by decide +kernel) ?_
    refine lv_isub (pc := 15) E.1 E.2.1 dX12_keepsAhead_15 ?_
    refine lv_topi (fun v_22 ev_22 => ?_)
    have hv_22 : v_22.toInt = (mi 3).toInt - 1 := by rw [ev_22]; exact subE rfl (by decide +kernel) (by omega)
    refine x_put (pc := 16) (T := TX12) (N := 70) (ci := 12) (ws' := (MW cI cJ M mr (upd mi 3 v_22) mf mg)) E hw1 inX12 tyX12_ok nmX12 0 3 q_1402 rfl rfl (by decide) rfl rfl rfl rfl (Nat.le_of_ble_eq_true rfl) rfl dX12_keepsAhead_16 (fun H locs hw23 => ?_)
    refine lv_iconst (pc := 19) (v := 0) E.1 E.2.1 dX12_keepsAhead_19 (by decide +kernel) ?_
    refine lv_istore_n (pc := 20) (lv' := [(1, .int 0), (0, .ref M)]) E.1 E.2.1 dX12_keepsAhead_20 rfl hl3 (by decide) rfl (fun ls hl24 => ?_)
    have loop_25 : ∀ (k : Nat) (x_26 : Int32) (g_27 : Nat → Int32) (H : Heap) (locs : List Loc) (ls : Array Slot), (0 ≤ x_26.toInt ∧ x_26.toInt ≤ 330) ∧ (SH g_27 (mf 2) x_26.toInt) → 330 - x_26.toInt < (k : Int) → WD D A s.heap (MW cI cJ M mr (upd mi 3 v_22) (va_up mf 2 g_27) mg) H locs → lv_has ls 2 [(1, .int x_26), (0, .ref M)] → W p l e ({ frames := 1, cells := 0, slots := 0, locals := 40 } : Room) s m ([.ref M] : List Value).toArray below meth c H locs 0 0 (MQ below (va_Qv (fun (u : Int32 × (Nat → Int32)) => (1 ≤ u.1.toInt ∧ u.1.toInt ≤ 6) ∧ (rowsOK u.1.toInt (mi 6).toInt u.2)) (fun u => QW D cI cJ A ((fun (u : Int32 × (Nat → Int32)) => (MW cI cJ M mr (upd mi 3 u.1) (va_up mf 2 u.2) mg)) u)) A) ([.ref M] : List Value).toArray s 0 0 A) (F0 m 21 ls []) := by
      intro k
      induction k with
      | zero =>
        intro x_26 g_27 _ _ _ hinv hm
        obtain ⟨hi_27_0, hi_27_1⟩ := hinv
        exact absurd hm (by omega)
      | succ k ih_28 =>
        intro x_26 g_27 H locs ls hinv hm hw29 hl30
        obtain ⟨hi_27_0, hi_27_1⟩ := hinv
        refine lv_iload_n (pc := 21) E.1 E.2.1 dX12_keepsAhead_21 rfl (lv_at hl30 0 rfl) ?_
        refine lv_bipush (pc := 22) (v := 66) E.1 E.2.1 dX12_keepsAhead_22 (by decide +kernel) ?_
        refine lv_aload_n (pc := 24) E.1 E.2.1 dX12_keepsAhead_24 rfl (lv_at hl30 1 rfl) ?_
        refine x_get (pc := 25) (T := TX12) (N := 70) (ci := 12) (v := .int v_22) E hw29 inX12 0 3 q_1402 rfl rfl (by decide) rfl rfl dX12_keepsAhead_25 ?_
        refine lv_imul (pc := 28) E.1 E.2.1 dX12_keepsAhead_28 ?_
        refine lv_topi (fun v_31 ev_31 => ?_)
        have hv_31 : v_31.toInt = 66 * v_22.toInt := by rw [ev_31]; exact mulE (by decide +kernel) rfl (by omega)
        refine lv_icmp_ge (pc := 29) (tgt := 53) E.1 E.2.1 dX12_keepsAhead_29 (by decide) (fun c_32 => ?_) (fun c_32 => ?_)
        · skip
          have hc_32 := leE (a := v_31.toInt) (b := x_26.toInt) rfl rfl c_32
          have hrk : rowsOK v_22.toInt (mi 6).toInt g_27 := rowsOK_SH (n := x_26.toInt) (b := v_22.toInt) hi_27_1 lf_rows (by omega) (by omega)
          refine lv_iconst (pc := 53) (v := 0) E.1 E.2.1 dX12_keepsAhead_53 (by decide +kernel) ?_
          refine lv_istore_n (pc := 54) (lv' := [(1, .int 0), (0, .ref M)]) E.1 E.2.1 dX12_keepsAhead_54 rfl hl30 (by decide) rfl (fun ls hl33 => ?_)
          have loop_34 : ∀ (k : Nat) (x_35 : Int32) (g_36 : Nat → Int32) (H : Heap) (locs : List Loc) (ls : Array Slot), (0 ≤ x_35.toInt ∧ x_35.toInt ≤ 66) ∧ (KP g_36 g_27 (mf 1) (66 * v_22.toNatClampNeg) x_35.toInt) → 66 - x_35.toInt < (k : Int) → WD D A s.heap (MW cI cJ M mr (upd mi 3 v_22) (va_up mf 2 g_36) mg) H locs → lv_has ls 2 [(1, .int x_35), (0, .ref M)] → W p l e ({ frames := 1, cells := 0, slots := 0, locals := 40 } : Room) s m ([.ref M] : List Value).toArray below meth c H locs 0 0 (MQ below (va_Qv (fun (u : Int32 × (Nat → Int32)) => (1 ≤ u.1.toInt ∧ u.1.toInt ≤ 6) ∧ (rowsOK u.1.toInt (mi 6).toInt u.2)) (fun u => QW D cI cJ A ((fun (u : Int32 × (Nat → Int32)) => (MW cI cJ M mr (upd mi 3 u.1) (va_up mf 2 u.2) mg)) u)) A) ([.ref M] : List Value).toArray s 0 0 A) (F0 m 55 ls []) := by
            intro k
            induction k with
            | zero =>
              intro x_35 g_36 _ _ _ hinv hm
              obtain ⟨hi_36_0, hi_36_1⟩ := hinv
              exact absurd hm (by omega)
            | succ k ih_37 =>
              intro x_35 g_36 H locs ls hinv hm hw38 hl39
              obtain ⟨hi_36_0, hi_36_1⟩ := hinv
              refine lv_iload_n (pc := 55) E.1 E.2.1 dX12_keepsAhead_55 rfl (lv_at hl39 0 rfl) ?_
              refine lv_bipush (pc := 56) (v := 66) E.1 E.2.1 dX12_keepsAhead_56 (by decide +kernel) ?_
              refine lv_icmp_ge (pc := 58) (tgt := 87) E.1 E.2.1 dX12_keepsAhead_58 (by decide) (fun c_40 => ?_) (fun c_40 => ?_)
              · skip
                have hc_40 := leE (a := 66) (b := x_35.toInt) (by decide +kernel) rfl c_40
                have q9 := idxI (x := v_22) (by omega)
                have hrz := rowsOK_KP hi_36_1 hrk (by omega) (by omega) (by omega) (by omega) (by omega)
                refine lv_aload_n (pc := 87) E.1 E.2.1 dX12_keepsAhead_87 rfl (lv_at hl39 1 rfl) ?_
                refine lv_aload_n (pc := 88) E.1 E.2.1 dX12_keepsAhead_88 rfl (lv_at hl39 1 rfl) ?_
                refine x_get (pc := 89) (T := TX12) (N := 70) (ci := 12) (v := .int v_22) E hw38 inX12 0 3 q_1402 rfl rfl (by decide) rfl rfl dX12_keepsAhead_89 ?_
                refine lv_iconst (pc := 92) (v := 1) E.1 E.2.1 dX12_keepsAhead_92 (by decide +kernel) ?_
                refine lv_iadd (pc := 93) E.1 E.2.1 dX12_keepsAhead_93 ?_
                refine lv_topi (fun v_41 ev_41 => ?_)
                have hv_41 : v_41.toInt = v_22.toInt + 1 := by rw [ev_41]; exact addE rfl (by decide +kernel) (by omega)
                refine x_put (pc := 94) (T := TX12) (N := 70) (ci := 12) (ws' := (MW cI cJ M mr (upd mi 3 v_41) (va_up mf 2 g_36) mg)) E hw38 inX12 tyX12_ok nmX12 0 3 q_1402 rfl rfl (by decide) rfl rfl rfl rfl (Nat.le_of_ble_eq_true rfl) rfl dX12_keepsAhead_94 (fun H locs hw42 => ?_)
                exact em_v (w1 := (fun (u : Int32 × (Nat → Int32)) => (MW cI cJ M mr (upd mi 3 u.1) (va_up mf 2 u.2) mg))) E hr hlk (v_41, g_36) hw42 ⟨(by show 1 ≤ v_41.toInt ∧ v_41.toInt ≤ 6; omega), (show rowsOK v_41.toInt (mi 6).toInt g_36 from (by have q8 := hrz; rwa [show v_22.toInt + 1 = v_41.toInt from by omega] at q8))⟩ (Nat.le_of_ble_eq_true rfl) (Nat.le_of_ble_eq_true rfl) dX12_keepsAhead_97
              · skip
                have hc_40 := nleE (a := 66) (b := x_35.toInt) (by decide +kernel) rfl c_40
                refine lv_aload_n (pc := 61) E.1 E.2.1 dX12_keepsAhead_61 rfl (lv_at hl39 1 rfl) ?_
                refine x_get (pc := 62) (T := TX12) (N := 70) (ci := 12) (v := .ref (mr 2)) E hw38 inX12 0 2 q_1401 rfl rfl (by decide) rfl rfl dX12_keepsAhead_62 ?_
                refine lv_bipush (pc := 65) (v := 66) E.1 E.2.1 dX12_keepsAhead_65 (by decide +kernel) ?_
                refine lv_aload_n (pc := 67) E.1 E.2.1 dX12_keepsAhead_67 rfl (lv_at hl39 1 rfl) ?_
                refine x_get (pc := 68) (T := TX12) (N := 70) (ci := 12) (v := .int v_22) E hw38 inX12 0 3 q_1402 rfl rfl (by decide) rfl rfl dX12_keepsAhead_68 ?_
                refine lv_imul (pc := 71) E.1 E.2.1 dX12_keepsAhead_71 ?_
                refine lv_topi (fun v_43 ev_43 => ?_)
                have hv_43 : v_43.toInt = 66 * v_22.toInt := by rw [ev_43]; exact mulE (by decide +kernel) rfl (by omega)
                refine lv_iload_n (pc := 72) E.1 E.2.1 dX12_keepsAhead_72 rfl (lv_at hl39 0 rfl) ?_
                refine lv_iadd (pc := 73) E.1 E.2.1 dX12_keepsAhead_73 ?_
                refine lv_topi (fun v_44 ev_44 => ?_)
                have hv_44 : v_44.toInt = v_43.toInt + x_35.toInt := by rw [ev_44]; exact addE rfl rfl (by omega)
                refine lv_aload_n (pc := 74) E.1 E.2.1 dX12_keepsAhead_74 rfl (lv_at hl39 1 rfl) ?_
                refine x_get (pc := 75) (T := TX12) (N := 70) (ci := 12) (v := .ref (mr 1)) E hw38 inX12 0 1 q_1400 rfl rfl (by decide) rfl rfl dX12_keepsAhead_75 ?_
                refine lv_iload_n (pc := 78) E.1 E.2.1 dX12_keepsAhead_78 rfl (lv_at hl39 0 rfl) ?_
                refine x_iald (pc := 79) (f := (mf 1)) E hw38 1 rfl (inbE (a := x_35.toInt) rfl (by omega)) dX12_keepsAhead_79 ?_
                refine lv_topi (fun v_45 ev_45 => ?_)
                refine x_iastG (pc := 80) (f := g_36) (wf := fun g => (MW cI cJ M mr (upd mi 3 v_22) (va_up mf 2 g) mg)) E hw38 2 rfl (inbE (a := v_44.toInt) rfl (by omega)) (fun _ => rfl) dX12_keepsAhead_80 (fun g_46 H locs eg_46 hw47 => ?_)
                obtain ⟨v_48, ev_48⟩ : ∃ z : Int32, x_35 + Int32.ofInt (1) = z := ⟨_, rfl⟩
                have hv_48 : v_48.toInt = x_35.toInt + (1) := by rw [← ev_48]; exact incE rfl (by decide) (by omega)
                refine lv_iinc (pc := 81) (v := v_48) (lv' := [(1, .int v_48), (0, .ref M)]) E.1 E.2.1 dX12_keepsAhead_81 hl39 (k := 0) rfl ev_48 (by decide) rfl (fun ls hl49 => ?_)
                refine lv_goto (pc := 84) (tgt := 55) E.1 E.2.1 dX12_keepsAhead_84 (by decide) ?_
                exact ih_37 v_48 g_46 _ _ _ ⟨(by show 0 ≤ v_48.toInt ∧ v_48.toInt ≤ 66; omega), (KP_step (i := x_35) (j := v_48) hi_36_1 eg_46 ev_45 (by have q9 := idxI (x := v_22) (by omega); omega) (by omega) (by omega) (by omega))⟩ (by omega) hw47 (lv_sub hl49 [0, 1] rfl)
          exact loop_34 (Int.toNat (66 - 0) + 1) 0 g_27 _ _ _ ⟨(by show 0 ≤ (0 : Int32).toInt ∧ (0 : Int32).toInt ≤ 66; have k_0 : (0 : Int32).toInt = 0 := (by decide +kernel); omega), (KP_nil (by decide +kernel))⟩ (by have k_0 : (0 : Int32).toInt = 0 := (by decide +kernel); omega) hw29 (lv_sub hl33 [0, 1] rfl)
        · skip
          have hc_32 := nleE (a := v_31.toInt) (b := x_26.toInt) rfl rfl c_32
          refine lv_aload_n (pc := 32) E.1 E.2.1 dX12_keepsAhead_32 rfl (lv_at hl30 1 rfl) ?_
          refine x_get (pc := 33) (T := TX12) (N := 70) (ci := 12) (v := .ref (mr 2)) E hw29 inX12 0 2 q_1401 rfl rfl (by decide) rfl rfl dX12_keepsAhead_33 ?_
          refine lv_iload_n (pc := 36) E.1 E.2.1 dX12_keepsAhead_36 rfl (lv_at hl30 0 rfl) ?_
          refine lv_aload_n (pc := 37) E.1 E.2.1 dX12_keepsAhead_37 rfl (lv_at hl30 1 rfl) ?_
          refine x_get (pc := 38) (T := TX12) (N := 70) (ci := 12) (v := .ref (mr 2)) E hw29 inX12 0 2 q_1401 rfl rfl (by decide) rfl rfl dX12_keepsAhead_38 ?_
          refine lv_iload_n (pc := 41) E.1 E.2.1 dX12_keepsAhead_41 rfl (lv_at hl30 0 rfl) ?_
          refine lv_bipush (pc := 42) (v := 66) E.1 E.2.1 dX12_keepsAhead_42 (by decide +kernel) ?_
          refine lv_iadd (pc := 44) E.1 E.2.1 dX12_keepsAhead_44 ?_
          refine lv_topi (fun v_50 ev_50 => ?_)
          have hv_50 : v_50.toInt = x_26.toInt + 66 := by rw [ev_50]; exact addE rfl (by decide +kernel) (by omega)
          refine x_iald (pc := 45) (f := g_27) E hw29 2 rfl (inbE (a := v_50.toInt) rfl (by omega)) dX12_keepsAhead_45 ?_
          refine lv_topi (fun v_51 ev_51 => ?_)
          refine x_iastG (pc := 46) (f := g_27) (wf := fun g => (MW cI cJ M mr (upd mi 3 v_22) (va_up mf 2 g) mg)) E hw29 2 rfl (inbE (a := x_26.toInt) rfl (by omega)) (fun _ => rfl) dX12_keepsAhead_46 (fun g_52 H locs eg_52 hw53 => ?_)
          obtain ⟨v_54, ev_54⟩ : ∃ z : Int32, x_26 + Int32.ofInt (1) = z := ⟨_, rfl⟩
          have hv_54 : v_54.toInt = x_26.toInt + (1) := by rw [← ev_54]; exact incE rfl (by decide) (by omega)
          refine lv_iinc (pc := 47) (v := v_54) (lv' := [(1, .int v_54), (0, .ref M)]) E.1 E.2.1 dX12_keepsAhead_47 hl30 (k := 0) rfl ev_54 (by decide) rfl (fun ls hl55 => ?_)
          refine lv_goto (pc := 50) (tgt := 21) E.1 E.2.1 dX12_keepsAhead_50 (by decide) ?_
          exact ih_28 v_54 g_52 _ _ _ ⟨(by show 0 ≤ v_54.toInt ∧ v_54.toInt ≤ 330; omega), (SH_step (i := x_26) (j := v_54) hi_27_1 eg_52 ev_51 (by omega) (by omega) (by omega) (by omega))⟩ (by omega) hw53 (lv_sub hl55 [0, 1] rfl)
    exact loop_25 (Int.toNat (330 - 0) + 1) 0 (mf 2) _ _ _ ⟨(by show 0 ≤ (0 : Int32).toInt ∧ (0 : Int32).toInt ≤ 330; have k_0 : (0 : Int32).toInt = 0 := (by decide +kernel); omega), (SH_nil (by decide +kernel))⟩ (by have k_0 : (0 : Int32).toInt = 0 := (by decide +kernel); omega) hw23 (lv_sub hl24 [0, 1] rfl)
