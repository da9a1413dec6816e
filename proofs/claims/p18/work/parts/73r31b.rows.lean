set_option maxHeartbeats 4000000 in
set_option maxRecDepth 100000 in
theorem s_nextByLaw (l : Launch) (D : va_G) (cI cJ : ClassId) (sz M : Nat) (mr : Nat → Nat) (mi : Nat → Int32) (mf : Nat → Nat → Int32) (mg : Nat → Nat → Int64)  (h0 : 0 ≤ ((mf 1) 3).toInt) (h1 : ((mf 1) 3).toInt + 1 ≤ (mi 6).toInt) (h2 : (mi 6).toInt ≤ 10) (h3 : 0 ≤ (mi 44).toInt ∧ (mi 44).toInt ≤ 10) (h4 : 0 ≤ ((mf 27) 0).toInt) (h5 : ((mf 27) 0).toInt ≤ 16) (h6 : 0 ≤ ((mf 27) 1).toInt) (h7 : ((mf 27) 1).toInt ≤ 16) (lf_law0 : LW 0 0 (mf 31) (mf 32) (mf 28) (mf 29) (mf 30) ((mf 27) 0).toInt 400) : Met l yX12_nextByLaw (Cond.code yX12_nextByLaw cX12_nextByLaw 5 (some .int) :: GW) ({ frames := 6, cells := 0, slots := 0, locals := 151 } : Room) (va_Pc [.ref M] (PW D cI cJ sz (MW cI cJ M mr mi mf mg) xT)) (va_Qi (fun (r : Int32) (u : (Nat → Int32) × (Nat → Int32)) => (0 ≤ r.toInt) ∧ (r.toInt + 1 ≤ (mi 6).toInt)) (fun u => QW D cI cJ (va_A (MW cI cJ M mr mi mf mg) sz) ((fun (u : (Nat → Int32) × (Nat → Int32)) => (MW cI cJ M mr mi (va_up (va_up mf 53 u.1) 54 u.2) mg)) u)) (va_A (MW cI cJ M mr mi mf mg) sz)) 0 0 (va_A (MW cI cJ M mr mi mf mg) sz) := by
  refine mk_met (y := yX12_nextByLaw) (bytes := cX12_nextByLaw) (maxL := 5) (avs := [.ref M]) (WS := (MW cI cJ M mr mi mf mg)) (Qf := fun A => va_Qi (fun (r : Int32) (u : (Nat → Int32) × (Nat → Int32)) => (0 ≤ r.toInt) ∧ (r.toInt + 1 ≤ (mi 6).toInt)) (fun u => QW D cI cJ A ((fun (u : (Nat → Int32) × (Nat → Int32)) => (MW cI cJ M mr mi (va_up (va_up mf 53 u.1) 54 u.2) mg)) u)) A) (by decide) (Nat.le_of_ble_eq_true rfl) ?_
  intro p e s m below meth c A ls E hr hlk hnm hX hw1 hl2
  have hl3 : lv_has ls 5 [(0, .ref M)] := hl2
  refine lv_iconst (pc := 0) (v := (-1)) E.1 E.2.1 dX12_nextByLaw_0 (by decide +kernel) ?_
  refine lv_istore_n (pc := 1) (lv' := [(1, .int (-1)), (0, .ref M)]) E.1 E.2.1 dX12_nextByLaw_1 rfl hl3 (by decide) rfl (fun ls hl4 => ?_)
  refine lv_iconst (pc := 2) (v := 0) E.1 E.2.1 dX12_nextByLaw_2 (by decide +kernel) ?_
  refine lv_istore_n (pc := 3) (lv' := [(2, .int 0), (1, .int (-1)), (0, .ref M)]) E.1 E.2.1 dX12_nextByLaw_3 rfl hl4 (by decide) rfl (fun ls hl5 => ?_)
  refine lv_iconst (pc := 4) (v := 0) E.1 E.2.1 dX12_nextByLaw_4 (by decide +kernel) ?_
  refine lv_istore_n (pc := 5) (lv' := [(3, .int 0), (2, .int 0), (1, .int (-1)), (0, .ref M)]) E.1 E.2.1 dX12_nextByLaw_5 rfl hl5 (by decide) rfl (fun ls hl6 => ?_)
  have loop_7 : ∀ (k : Nat) (x_8 : Int32) (x_9 : Int32) (x_10 : Int32) (g_11 : Nat → Int32) (g_12 : Nat → Int32) (H : Heap) (locs : List Loc) (ls : Array Slot), (0 ≤ x_8.toInt) ∧ (x_8.toInt ≤ (mi 6).toInt) ∧ ((-1) ≤ x_9.toInt) ∧ (x_9.toInt + 1 ≤ (mi 6).toInt) ∧ (x_8.toInt ≤ ((mf 1) 3).toInt ∨ 0 ≤ x_9.toInt) → (mi 6).toInt - x_8.toInt < (k : Int) → WD D A s.heap (MW cI cJ M mr mi (va_up (va_up mf 53 g_11) 54 g_12) mg) H locs → lv_has ls 5 [(3, .int x_8), (2, .int x_10), (1, .int x_9), (0, .ref M)] → W p l e ({ frames := 6, cells := 0, slots := 0, locals := 151 } : Room) s m ([.ref M] : List Value).toArray below meth c H locs 0 0 (MQ below (va_Qi (fun (r : Int32) (u : (Nat → Int32) × (Nat → Int32)) => (0 ≤ r.toInt) ∧ (r.toInt + 1 ≤ (mi 6).toInt)) (fun u => QW D cI cJ A ((fun (u : (Nat → Int32) × (Nat → Int32)) => (MW cI cJ M mr mi (va_up (va_up mf 53 u.1) 54 u.2) mg)) u)) A) ([.ref M] : List Value).toArray s 0 0 A) (F0 m 6 ls []) := by
    intro k
    induction k with
    | zero =>
      intro x_8 x_9 x_10 g_11 g_12 _ _ _ hinv hm
      obtain ⟨hi_12_0, hi_12_1, hi_12_2, hi_12_3, hi_12_4⟩ := hinv
      exact absurd hm (by omega)
    | succ k ih_13 =>
      intro x_8 x_9 x_10 g_11 g_12 H locs ls hinv hm hw14 hl15
      obtain ⟨hi_12_0, hi_12_1, hi_12_2, hi_12_3, hi_12_4⟩ := hinv
      refine lv_iload_n (pc := 6) E.1 E.2.1 dX12_nextByLaw_6 rfl (lv_at hl15 0 rfl) ?_
      refine lv_aload_n (pc := 7) E.1 E.2.1 dX12_nextByLaw_7 rfl (lv_at hl15 3 rfl) ?_
      refine x_get (pc := 8) (T := TX12) (N := 70) (ci := 12) (v := .int (mi 6)) E hw14 inX12 0 6 q_1405 rfl rfl (by decide) rfl rfl dX12_nextByLaw_8 ?_
      refine lv_icmp_ge (pc := 11) (tgt := 63) E.1 E.2.1 dX12_nextByLaw_11 (by decide) (fun c_16 => ?_) (fun c_16 => ?_)
      · skip
        have hc_16 := leE (a := (mi 6).toInt) (b := x_8.toInt) rfl rfl c_16
        have hbest_17 : 0 ≤ x_9.toInt := by have q := hi_12_4; omega
        refine lv_iload_n (pc := 63) E.1 E.2.1 dX12_nextByLaw_63 rfl (lv_at hl15 2 rfl) ?_
        exact em_i (w1 := (fun (u : (Nat → Int32) × (Nat → Int32)) => (MW cI cJ M mr mi (va_up (va_up mf 53 u.1) 54 u.2) mg))) E hr hlk (g_11, g_12) hw14 ⟨(by show 0 ≤ x_9.toInt; omega), hi_12_3⟩ (Nat.le_of_ble_eq_true rfl) (Nat.le_of_ble_eq_true rfl) dX12_nextByLaw_64
      · skip
        have hc_16 := nleE (a := (mi 6).toInt) (b := x_8.toInt) rfl rfl c_16
        refine lv_aload_n (pc := 14) E.1 E.2.1 dX12_nextByLaw_14 rfl (lv_at hl15 3 rfl) ?_
        refine lv_aload_n (pc := 15) E.1 E.2.1 dX12_nextByLaw_15 rfl (lv_at hl15 3 rfl) ?_
        refine x_get (pc := 16) (T := TX12) (N := 70) (ci := 12) (v := .ref (mr 1)) E hw14 inX12 0 1 q_1400 rfl rfl (by decide) rfl rfl dX12_nextByLaw_16 ?_
        refine lv_iconst (pc := 19) (v := 3) E.1 E.2.1 dX12_nextByLaw_19 (by decide +kernel) ?_
        refine x_iald (pc := 20) (f := (mf 1)) E hw14 1 rfl (inbE (a := 3) (by decide +kernel) (by omega)) dX12_nextByLaw_20 ?_
        refine lv_topi (fun v_18 ev_18 => ?_)
        have hv_18 : v_18.toInt = ((mf 1) 3).toInt := by rw [ev_18]; rfl
        refine lv_iload_n (pc := 21) E.1 E.2.1 dX12_nextByLaw_21 rfl (lv_at hl15 0 rfl) ?_
        refine cm_i (pc := 22) hw14 (rn_M (As := [.int v_18, .int x_8]) (rest := []) E hw14 (s_isReached l D cI cJ _ M mr mi (va_up (va_up mf 53 g_11) 54 g_12) mg v_18 x_8 (by show 0 ≤ v_18.toInt ∧ v_18.toInt ≤ 9; omega) (by show 0 ≤ x_8.toInt ∧ x_8.toInt ≤ 9; omega)) (gdV q_1843 q_1845 q_93 q_162 q_1846) hdV_X12_isReached ⟨rfl, rfl⟩ ⟨(Nat.le_of_ble_eq_true rfl), (Nat.le_of_ble_eq_true rfl)⟩ ⟨(Nat.le_of_ble_eq_true rfl), (Nat.le_of_ble_eq_true rfl)⟩ 12 rfl rfl rfl rfl hl15.1 rfl (Nat.le_of_ble_eq_true rfl) dX12_nextByLaw_22) (fun r_20 u_19 H1 locs hp hw21 => ?_)
        generalize H1 = H at hw21 ⊢
        have hw22 : WD D A s.heap (MW cI cJ M mr mi (va_up (va_up mf 53 g_11) 54 g_12) mg) H locs := hw21
        have hp_23 := hp
        rcases hp_23 with ⟨rfl, ha_24⟩ | rfl | ⟨rfl, ha_25⟩
        · skip
          have ha_24 : v_18.toInt = x_8.toInt := ha_24
          refine lv_if_ne (pc := 25) (tgt := 31) E.1 E.2.1 dX12_nextByLaw_25 (by decide) (fun _ => ?_) (fun c_26 => absurd c_26 (mneE (a := 1) (b := 0) (by decide +kernel) (by decide +kernel) (by omega)))
          refine lv_aload_n (pc := 31) E.1 E.2.1 dX12_nextByLaw_31 rfl (lv_at hl15 3 rfl) ?_
          refine lv_iload_n (pc := 32) E.1 E.2.1 dX12_nextByLaw_32 rfl (lv_at hl15 0 rfl) ?_
          refine cm_i (pc := 33) hw22 (rn_M (As := [.int x_8]) (rest := []) E hw22 (s_turnOfHouse l D cI cJ _ M mr mi (va_up (va_up mf 53 g_11) 54 g_12) mg x_8 (by show 0 ≤ x_8.toInt ∧ x_8.toInt ≤ 9; omega) (by show 0 ≤ ((mf 1) 3).toInt ∧ ((mf 1) 3).toInt ≤ 9; omega) h3 h4 h5 h6 h7 (show LW 0 0 (mf 31) (mf 32) (mf 28) (mf 29) (mf 30) ((mf 27) 0).toInt 400 from lf_law0)) (gdV q_1855 q_1857 q_96 q_162 q_1858) hdV_X12_turnOfHouse ⟨rfl, rfl⟩ ⟨(Nat.le_of_ble_eq_true rfl), (Nat.le_of_ble_eq_true rfl)⟩ ⟨(Nat.le_of_ble_eq_true rfl), (Nat.le_of_ble_eq_true rfl)⟩ 12 rfl rfl rfl rfl hl15.1 rfl (Nat.le_of_ble_eq_true rfl) dX12_nextByLaw_33) (fun r_28 u_27 H1 locs hp hw29 => ?_)
          obtain ⟨gasked_30, gstack_31⟩ := u_27
          generalize H1 = H at hw29 ⊢
          have hw32 : WD D A s.heap (MW cI cJ M mr mi (va_up (va_up mf 53 gasked_30) 54 gstack_31) mg) H locs := hw29
          refine lv_istore (pc := 36) (lv' := [(4, .int r_28), (3, .int x_8), (2, .int x_10), (1, .int x_9), (0, .ref M)]) E.1 E.2.1 dX12_nextByLaw_36 hl15 (by decide) rfl (fun ls hl33 => ?_)
          refine lv_iload_n (pc := 38) E.1 E.2.1 dX12_nextByLaw_38 rfl (lv_at hl33 3 rfl) ?_
          refine lv_iconst (pc := 39) (v := (-1)) E.1 E.2.1 dX12_nextByLaw_39 (by decide +kernel) ?_
          refine lv_icmp_eq (pc := 40) (tgt := 52) E.1 E.2.1 dX12_nextByLaw_40 (by decide) (fun c_34 => ?_) (fun c_34 => ?_)
          · skip
            have hc_34 := eqE (a := x_9.toInt) (b := (-1)) rfl (by decide +kernel) c_34
            refine lv_iload_n (pc := 52) E.1 E.2.1 dX12_nextByLaw_52 rfl (lv_at hl33 1 rfl) ?_
            refine lv_istore_n (pc := 53) (lv' := [(1, .int x_8), (4, .int r_28), (3, .int x_8), (2, .int x_10), (0, .ref M)]) E.1 E.2.1 dX12_nextByLaw_53 rfl hl33 (by decide) rfl (fun ls hl35 => ?_)
            refine lv_iload (pc := 54) E.1 E.2.1 dX12_nextByLaw_54 (lv_at hl35 1 rfl) ?_
            refine lv_istore_n (pc := 56) (lv' := [(2, .int r_28), (1, .int x_8), (4, .int r_28), (3, .int x_8), (0, .ref M)]) E.1 E.2.1 dX12_nextByLaw_56 rfl hl35 (by decide) rfl (fun ls hl36 => ?_)
            obtain ⟨v_37, ev_37⟩ : ∃ z : Int32, x_8 + Int32.ofInt (1) = z := ⟨_, rfl⟩
            have hv_37 : v_37.toInt = x_8.toInt + (1) := by rw [← ev_37]; exact incE rfl (by decide) (by omega)
            refine lv_iinc (pc := 57) (v := v_37) (lv' := [(3, .int v_37), (2, .int r_28), (1, .int x_8), (4, .int r_28), (0, .ref M)]) E.1 E.2.1 dX12_nextByLaw_57 hl36 (k := 3) rfl ev_37 (by decide) rfl (fun ls hl38 => ?_)
            refine lv_goto (pc := 60) (tgt := 6) E.1 E.2.1 dX12_nextByLaw_60 (by decide) ?_
            exact ih_13 v_37 x_8 r_28 gasked_30 gstack_31 _ _ _ ⟨(by show 0 ≤ v_37.toInt; omega), (by show v_37.toInt ≤ (mi 6).toInt; omega), (by show (-1) ≤ x_8.toInt; omega), (by show x_8.toInt + 1 ≤ (mi 6).toInt; omega), (by have q9 := hi_12_4; omega)⟩ (by omega) hw32 (lv_sub hl38 [0, 1, 2, 4] rfl)
          · skip
            have hc_34 := neE (a := x_9.toInt) (b := (-1)) rfl (by decide +kernel) c_34
            refine lv_iload (pc := 43) E.1 E.2.1 dX12_nextByLaw_43 (lv_at hl33 0 rfl) ?_
            refine lv_iload_n (pc := 45) E.1 E.2.1 dX12_nextByLaw_45 rfl (lv_at hl33 2 rfl) ?_
            refine lv_icmp_gt (pc := 46) (tgt := 52) E.1 E.2.1 dX12_nextByLaw_46 (by decide) (fun c_39 => ?_) (fun c_39 => ?_)
            · skip
              have hc_39 := ltE (a := x_10.toInt) (b := r_28.toInt) rfl rfl c_39
              refine lv_iload_n (pc := 52) E.1 E.2.1 dX12_nextByLaw_52 rfl (lv_at hl33 1 rfl) ?_
              refine lv_istore_n (pc := 53) (lv' := [(1, .int x_8), (4, .int r_28), (3, .int x_8), (2, .int x_10), (0, .ref M)]) E.1 E.2.1 dX12_nextByLaw_53 rfl hl33 (by decide) rfl (fun ls hl40 => ?_)
              refine lv_iload (pc := 54) E.1 E.2.1 dX12_nextByLaw_54 (lv_at hl40 1 rfl) ?_
              refine lv_istore_n (pc := 56) (lv' := [(2, .int r_28), (1, .int x_8), (4, .int r_28), (3, .int x_8), (0, .ref M)]) E.1 E.2.1 dX12_nextByLaw_56 rfl hl40 (by decide) rfl (fun ls hl41 => ?_)
              obtain ⟨v_42, ev_42⟩ : ∃ z : Int32, x_8 + Int32.ofInt (1) = z := ⟨_, rfl⟩
              have hv_42 : v_42.toInt = x_8.toInt + (1) := by rw [← ev_42]; exact incE rfl (by decide) (by omega)
              refine lv_iinc (pc := 57) (v := v_42) (lv' := [(3, .int v_42), (2, .int r_28), (1, .int x_8), (4, .int r_28), (0, .ref M)]) E.1 E.2.1 dX12_nextByLaw_57 hl41 (k := 3) rfl ev_42 (by decide) rfl (fun ls hl43 => ?_)
              refine lv_goto (pc := 60) (tgt := 6) E.1 E.2.1 dX12_nextByLaw_60 (by decide) ?_
              exact ih_13 v_42 x_8 r_28 gasked_30 gstack_31 _ _ _ ⟨(by show 0 ≤ v_42.toInt; omega), (by show v_42.toInt ≤ (mi 6).toInt; omega), (by show (-1) ≤ x_8.toInt; omega), (by show x_8.toInt + 1 ≤ (mi 6).toInt; omega), (by have q9 := hi_12_4; omega)⟩ (by omega) hw32 (lv_sub hl43 [0, 1, 2, 4] rfl)
            · skip
              have hc_39 := nltE (a := x_10.toInt) (b := r_28.toInt) rfl rfl c_39
              refine lv_goto (pc := 49) (tgt := 57) E.1 E.2.1 dX12_nextByLaw_49 (by decide) ?_
              obtain ⟨v_44, ev_44⟩ : ∃ z : Int32, x_8 + Int32.ofInt (1) = z := ⟨_, rfl⟩
              have hv_44 : v_44.toInt = x_8.toInt + (1) := by rw [← ev_44]; exact incE rfl (by decide) (by omega)
              refine lv_iinc (pc := 57) (v := v_44) (lv' := [(3, .int v_44), (4, .int r_28), (2, .int x_10), (1, .int x_9), (0, .ref M)]) E.1 E.2.1 dX12_nextByLaw_57 hl33 (k := 1) rfl ev_44 (by decide) rfl (fun ls hl45 => ?_)
              refine lv_goto (pc := 60) (tgt := 6) E.1 E.2.1 dX12_nextByLaw_60 (by decide) ?_
              exact ih_13 v_44 x_9 x_10 gasked_30 gstack_31 _ _ _ ⟨(by show 0 ≤ v_44.toInt; omega), (by show v_44.toInt ≤ (mi 6).toInt; omega), hi_12_2, hi_12_3, (by have q9 := hi_12_4; omega)⟩ (by omega) hw32 (lv_sub hl45 [0, 2, 3, 4] rfl)
        · skip
          refine lv_if_ne (pc := 25) (tgt := 31) E.1 E.2.1 dX12_nextByLaw_25 (by decide) (fun _ => ?_) (fun c_46 => absurd c_46 (mneE (a := 1) (b := 0) (by decide +kernel) (by decide +kernel) (by omega)))
          refine lv_aload_n (pc := 31) E.1 E.2.1 dX12_nextByLaw_31 rfl (lv_at hl15 3 rfl) ?_
          refine lv_iload_n (pc := 32) E.1 E.2.1 dX12_nextByLaw_32 rfl (lv_at hl15 0 rfl) ?_
          refine cm_i (pc := 33) hw22 (rn_M (As := [.int x_8]) (rest := []) E hw22 (s_turnOfHouse l D cI cJ _ M mr mi (va_up (va_up mf 53 g_11) 54 g_12) mg x_8 (by show 0 ≤ x_8.toInt ∧ x_8.toInt ≤ 9; omega) (by show 0 ≤ ((mf 1) 3).toInt ∧ ((mf 1) 3).toInt ≤ 9; omega) h3 h4 h5 h6 h7 (show LW 0 0 (mf 31) (mf 32) (mf 28) (mf 29) (mf 30) ((mf 27) 0).toInt 400 from lf_law0)) (gdV q_1855 q_1857 q_96 q_162 q_1858) hdV_X12_turnOfHouse ⟨rfl, rfl⟩ ⟨(Nat.le_of_ble_eq_true rfl), (Nat.le_of_ble_eq_true rfl)⟩ ⟨(Nat.le_of_ble_eq_true rfl), (Nat.le_of_ble_eq_true rfl)⟩ 12 rfl rfl rfl rfl hl15.1 rfl (Nat.le_of_ble_eq_true rfl) dX12_nextByLaw_33) (fun r_48 u_47 H1 locs hp hw49 => ?_)
          obtain ⟨gasked_50, gstack_51⟩ := u_47
          generalize H1 = H at hw49 ⊢
          have hw52 : WD D A s.heap (MW cI cJ M mr mi (va_up (va_up mf 53 gasked_50) 54 gstack_51) mg) H locs := hw49
          refine lv_istore (pc := 36) (lv' := [(4, .int r_48), (3, .int x_8), (2, .int x_10), (1, .int x_9), (0, .ref M)]) E.1 E.2.1 dX12_nextByLaw_36 hl15 (by decide) rfl (fun ls hl53 => ?_)
          refine lv_iload_n (pc := 38) E.1 E.2.1 dX12_nextByLaw_38 rfl (lv_at hl53 3 rfl) ?_
          refine lv_iconst (pc := 39) (v := (-1)) E.1 E.2.1 dX12_nextByLaw_39 (by decide +kernel) ?_
          refine lv_icmp_eq (pc := 40) (tgt := 52) E.1 E.2.1 dX12_nextByLaw_40 (by decide) (fun c_54 => ?_) (fun c_54 => ?_)
          · skip
            have hc_54 := eqE (a := x_9.toInt) (b := (-1)) rfl (by decide +kernel) c_54
            refine lv_iload_n (pc := 52) E.1 E.2.1 dX12_nextByLaw_52 rfl (lv_at hl53 1 rfl) ?_
            refine lv_istore_n (pc := 53) (lv' := [(1, .int x_8), (4, .int r_48), (3, .int x_8), (2, .int x_10), (0, .ref M)]) E.1 E.2.1 dX12_nextByLaw_53 rfl hl53 (by decide) rfl (fun ls hl55 => ?_)
            refine lv_iload (pc := 54) E.1 E.2.1 dX12_nextByLaw_54 (lv_at hl55 1 rfl) ?_
            refine lv_istore_n (pc := 56) (lv' := [(2, .int r_48), (1, .int x_8), (4, .int r_48), (3, .int x_8), (0, .ref M)]) E.1 E.2.1 dX12_nextByLaw_56 rfl hl55 (by decide) rfl (fun ls hl56 => ?_)
            obtain ⟨v_57, ev_57⟩ : ∃ z : Int32, x_8 + Int32.ofInt (1) = z := ⟨_, rfl⟩
            have hv_57 : v_57.toInt = x_8.toInt + (1) := by rw [← ev_57]; exact incE rfl (by decide) (by omega)
            refine lv_iinc (pc := 57) (v := v_57) (lv' := [(3, .int v_57), (2, .int r_48), (1, .int x_8), (4, .int r_48), (0, .ref M)]) E.1 E.2.1 dX12_nextByLaw_57 hl56 (k := 3) rfl ev_57 (by decide) rfl (fun ls hl58 => ?_)
            refine lv_goto (pc := 60) (tgt := 6) E.1 E.2.1 dX12_nextByLaw_60 (by decide) ?_
            exact ih_13 v_57 x_8 r_48 gasked_50 gstack_51 _ _ _ ⟨(by show 0 ≤ v_57.toInt; omega), (by show v_57.toInt ≤ (mi 6).toInt; omega), (by show (-1) ≤ x_8.toInt; omega), (by show x_8.toInt + 1 ≤ (mi 6).toInt; omega), (by have q9 := hi_12_4; omega)⟩ (by omega) hw52 (lv_sub hl58 [0, 1, 2, 4] rfl)
          · skip
            have hc_54 := neE (a := x_9.toInt) (b := (-1)) rfl (by decide +kernel) c_54
            refine lv_iload (pc := 43) E.1 E.2.1 dX12_nextByLaw_43 (lv_at hl53 0 rfl) ?_
            refine lv_iload_n (pc := 45) E.1 E.2.1 dX12_nextByLaw_45 rfl (lv_at hl53 2 rfl) ?_
            refine lv_icmp_gt (pc := 46) (tgt := 52) E.1 E.2.1 dX12_nextByLaw_46 (by decide) (fun c_59 => ?_) (fun c_59 => ?_)
            · skip
              have hc_59 := ltE (a := x_10.toInt) (b := r_48.toInt) rfl rfl c_59
              refine lv_iload_n (pc := 52) E.1 E.2.1 dX12_nextByLaw_52 rfl (lv_at hl53 1 rfl) ?_
              refine lv_istore_n (pc := 53) (lv' := [(1, .int x_8), (4, .int r_48), (3, .int x_8), (2, .int x_10), (0, .ref M)]) E.1 E.2.1 dX12_nextByLaw_53 rfl hl53 (by decide) rfl (fun ls hl60 => ?_)
              refine lv_iload (pc := 54) E.1 E.2.1 dX12_nextByLaw_54 (lv_at hl60 1 rfl) ?_
              refine lv_istore_n (pc := 56) (lv' := [(2, .int r_48), (1, .int x_8), (4, .int r_48), (3, .int x_8), (0, .ref M)]) E.1 E.2.1 dX12_nextByLaw_56 rfl hl60 (by decide) rfl (fun ls hl61 => ?_)
              obtain ⟨v_62, ev_62⟩ : ∃ z : Int32, x_8 + Int32.ofInt (1) = z := ⟨_, rfl⟩
              have hv_62 : v_62.toInt = x_8.toInt + (1) := by rw [← ev_62]; exact incE rfl (by decide) (by omega)
              refine lv_iinc (pc := 57) (v := v_62) (lv' := [(3, .int v_62), (2, .int r_48), (1, .int x_8), (4, .int r_48), (0, .ref M)]) E.1 E.2.1 dX12_nextByLaw_57 hl61 (k := 3) rfl ev_62 (by decide) rfl (fun ls hl63 => ?_)
              refine lv_goto (pc := 60) (tgt := 6) E.1 E.2.1 dX12_nextByLaw_60 (by decide) ?_
              exact ih_13 v_62 x_8 r_48 gasked_50 gstack_51 _ _ _ ⟨(by show 0 ≤ v_62.toInt; omega), (by show v_62.toInt ≤ (mi 6).toInt; omega), (by show (-1) ≤ x_8.toInt; omega), (by show x_8.toInt + 1 ≤ (mi 6).toInt; omega), (by have q9 := hi_12_4; omega)⟩ (by omega) hw52 (lv_sub hl63 [0, 1, 2, 4] rfl)
            · skip
              have hc_59 := nltE (a := x_10.toInt) (b := r_48.toInt) rfl rfl c_59
              refine lv_goto (pc := 49) (tgt := 57) E.1 E.2.1 dX12_nextByLaw_49 (by decide) ?_
              obtain ⟨v_64, ev_64⟩ : ∃ z : Int32, x_8 + Int32.ofInt (1) = z := ⟨_, rfl⟩
              have hv_64 : v_64.toInt = x_8.toInt + (1) := by rw [← ev_64]; exact incE rfl (by decide) (by omega)
              refine lv_iinc (pc := 57) (v := v_64) (lv' := [(3, .int v_64), (4, .int r_48), (2, .int x_10), (1, .int x_9), (0, .ref M)]) E.1 E.2.1 dX12_nextByLaw_57 hl53 (k := 1) rfl ev_64 (by decide) rfl (fun ls hl65 => ?_)
              refine lv_goto (pc := 60) (tgt := 6) E.1 E.2.1 dX12_nextByLaw_60 (by decide) ?_
              exact ih_13 v_64 x_9 x_10 gasked_50 gstack_51 _ _ _ ⟨(by show 0 ≤ v_64.toInt; omega), (by show v_64.toInt ≤ (mi 6).toInt; omega), hi_12_2, hi_12_3, (by have q9 := hi_12_4; omega)⟩ (by omega) hw52 (lv_sub hl65 [0, 2, 3, 4] rfl)
        · skip
          have ha_25 : ¬ v_18.toInt = x_8.toInt := ha_25
          refine lv_if_ne (pc := 25) (tgt := 31) E.1 E.2.1 dX12_nextByLaw_25 (by decide) (fun c_66 => absurd (meqE (a := 0) (b := 0) (by decide +kernel) (by decide +kernel) (by omega)) c_66) (fun _ => ?_)
          refine lv_goto (pc := 28) (tgt := 57) E.1 E.2.1 dX12_nextByLaw_28 (by decide) ?_
          obtain ⟨v_67, ev_67⟩ : ∃ z : Int32, x_8 + Int32.ofInt (1) = z := ⟨_, rfl⟩
          have hv_67 : v_67.toInt = x_8.toInt + (1) := by rw [← ev_67]; exact incE rfl (by decide) (by omega)
          refine lv_iinc (pc := 57) (v := v_67) (lv' := [(3, .int v_67), (2, .int x_10), (1, .int x_9), (0, .ref M)]) E.1 E.2.1 dX12_nextByLaw_57 hl15 (k := 0) rfl ev_67 (by decide) rfl (fun ls hl68 => ?_)
          refine lv_goto (pc := 60) (tgt := 6) E.1 E.2.1 dX12_nextByLaw_60 (by decide) ?_
          exact ih_13 v_67 x_9 x_10 g_11 g_12 _ _ _ ⟨(by show 0 ≤ v_67.toInt; omega), (by show v_67.toInt ≤ (mi 6).toInt; omega), hi_12_2, hi_12_3, (by have q9 := hi_12_4; omega)⟩ (by omega) hw22 (lv_sub hl68 [0, 1, 2, 3] rfl)
  exact loop_7 (Int.toNat ((mi 6).toInt - 0) + 1) 0 (-1) 0 (mf 53) (mf 54) _ _ _ ⟨(by show 0 ≤ (0 : Int32).toInt; have k_0 : (0 : Int32).toInt = 0 := (by decide +kernel); omega), (by show (0 : Int32).toInt ≤ (mi 6).toInt; have k_0 : (0 : Int32).toInt = 0 := (by decide +kernel); omega), (by show (-1) ≤ ((-1) : Int32).toInt; have k_0 : ((-1) : Int32).toInt = -1 := (by decide +kernel); omega), (by show ((-1) : Int32).toInt + 1 ≤ (mi 6).toInt; have k_0 : ((-1) : Int32).toInt = -1 := (by decide +kernel); omega), (Or.inl (by have k9 : (0 : Int32).toInt = 0 := (by decide +kernel); omega))⟩ (by have k_0 : (0 : Int32).toInt = 0 := (by decide +kernel); have k_1 : ((-1) : Int32).toInt = -1 := (by decide +kernel); have k_2 : (0 : Int32).toInt = 0 := (by decide +kernel); omega) hw1 (lv_sub hl6 [0, 1, 2, 3] rfl)

set_option maxHeartbeats 4000000 in
set_option maxRecDepth 100000 in
theorem s_nextByRound (l : Launch) (D : va_G) (cI cJ : ClassId) (sz M : Nat) (mr : Nat → Nat) (mi : Nat → Int32) (mf : Nat → Nat → Int32) (mg : Nat → Nat → Int64)  (h0 : 0 ≤ ((mf 1) 3).toInt) (h1 : ((mf 1) 3).toInt + 1 ≤ (mi 6).toInt) (h2 : (mi 6).toInt ≤ 10) (h3 : 0 ≤ ((mf 1) 5).toInt) (h4 : ((mf 1) 5).toInt + 1 ≤ (mi 49).toInt) (h5 : (mi 49).toInt ≤ 200) (lf_round : rndOK (mi 49).toInt (mi 6).toInt (mf 50)) : Met l yX12_nextByRound (Cond.code yX12_nextByRound cX12_nextByRound 2 (some .int) :: GW) ({ frames := 3, cells := 0, slots := 0, locals := 82 } : Room) (va_Pc [.ref M] (PW D cI cJ sz (MW cI cJ M mr mi mf mg) xT)) (va_Qi (fun (r : Int32) (u : (Nat → Int32)) => (0 ≤ r.toInt) ∧ (r.toInt + 1 ≤ (mi 6).toInt) ∧ ((u 2).toInt = ((mf 1) 2).toInt) ∧ ((u 3).toInt = ((mf 1) 3).toInt) ∧ ((u 5).toInt = ((mf 1) 5).toInt + 1)) (fun u => QW D cI cJ (va_A (MW cI cJ M mr mi mf mg) sz) ((fun (u : (Nat → Int32)) => (MW cI cJ M mr mi (va_up mf 1 u) mg)) u)) (va_A (MW cI cJ M mr mi mf mg) sz)) 0 0 (va_A (MW cI cJ M mr mi mf mg) sz) := by
  refine mk_met (y := yX12_nextByRound) (bytes := cX12_nextByRound) (maxL := 2) (avs := [.ref M]) (WS := (MW cI cJ M mr mi mf mg)) (Qf := fun A => va_Qi (fun (r : Int32) (u : (Nat → Int32)) => (0 ≤ r.toInt) ∧ (r.toInt + 1 ≤ (mi 6).toInt) ∧ ((u 2).toInt = ((mf 1) 2).toInt) ∧ ((u 3).toInt = ((mf 1) 3).toInt) ∧ ((u 5).toInt = ((mf 1) 5).toInt + 1)) (fun u => QW D cI cJ A ((fun (u : (Nat → Int32)) => (MW cI cJ M mr mi (va_up mf 1 u) mg)) u)) A) (by decide) (Nat.le_of_ble_eq_true rfl) ?_
  intro p e s m below meth c A ls E hr hlk hnm hX hw1 hl2
  have hl3 : lv_has ls 2 [(0, .ref M)] := hl2
  refine lv_aload_n (pc := 0) E.1 E.2.1 dX12_nextByRound_0 rfl (lv_at hl3 0 rfl) ?_
  refine x_get (pc := 1) (T := TX12) (N := 70) (ci := 12) (v := .ref (mr 50)) E hw1 inX12 0 50 q_1449 rfl rfl (by decide) rfl rfl dX12_nextByRound_1 ?_
  refine lv_aload_n (pc := 4) E.1 E.2.1 dX12_nextByRound_4 rfl (lv_at hl3 0 rfl) ?_
  refine x_get (pc := 5) (T := TX12) (N := 70) (ci := 12) (v := .ref (mr 1)) E hw1 inX12 0 1 q_1400 rfl rfl (by decide) rfl rfl dX12_nextByRound_5 ?_
  refine lv_iconst (pc := 8) (v := 5) E.1 E.2.1 dX12_nextByRound_8 (by decide +kernel) ?_
  refine x_iald (pc := 9) (f := (mf 1)) E hw1 1 rfl (inbE (a := 5) (by decide +kernel) (by omega)) dX12_nextByRound_9 ?_
  refine lv_topi (fun v_4 ev_4 => ?_)
  have hv_4 : v_4.toInt = ((mf 1) 5).toInt := by rw [ev_4]; rfl
  refine x_iald (pc := 10) (f := (mf 50)) E hw1 25 rfl (inbE (a := v_4.toInt) rfl (by omega)) dX12_nextByRound_10 ?_
  refine lv_topi (fun v_5 ev_5 => ?_)
  have hr9 := rndOK_at lf_round ev_5 (by omega)
  refine lv_istore_n (pc := 11) (lv' := [(1, .int v_5), (0, .ref M)]) E.1 E.2.1 dX12_nextByRound_11 rfl hl3 (by decide) rfl (fun ls hl6 => ?_)
  refine lv_aload_n (pc := 12) E.1 E.2.1 dX12_nextByRound_12 rfl (lv_at hl6 1 rfl) ?_
  refine x_get (pc := 13) (T := TX12) (N := 70) (ci := 12) (v := .ref (mr 1)) E hw1 inX12 0 1 q_1400 rfl rfl (by decide) rfl rfl dX12_nextByRound_13 ?_
  refine lv_iconst (pc := 16) (v := 5) E.1 E.2.1 dX12_nextByRound_16 (by decide +kernel) ?_
  refine lv_aload_n (pc := 17) E.1 E.2.1 dX12_nextByRound_17 rfl (lv_at hl6 1 rfl) ?_
  refine x_get (pc := 18) (T := TX12) (N := 70) (ci := 12) (v := .ref (mr 1)) E hw1 inX12 0 1 q_1400 rfl rfl (by decide) rfl rfl dX12_nextByRound_18 ?_
  refine lv_iconst (pc := 21) (v := 5) E.1 E.2.1 dX12_nextByRound_21 (by decide +kernel) ?_
  refine x_iald (pc := 22) (f := (mf 1)) E hw1 1 rfl (inbE (a := 5) (by decide +kernel) (by omega)) dX12_nextByRound_22 ?_
  refine lv_topi (fun v_7 ev_7 => ?_)
  have hv_7 : v_7.toInt = ((mf 1) 5).toInt := by rw [ev_7]; rfl
  have hsv_7 : v_7.toInt = v_4.toInt := by rw [ev_7, ev_4]
  refine lv_iconst (pc := 23) (v := 1) E.1 E.2.1 dX12_nextByRound_23 (by decide +kernel) ?_
  refine lv_iadd (pc := 24) E.1 E.2.1 dX12_nextByRound_24 ?_
  refine lv_topi (fun v_8 ev_8 => ?_)
  have hv_8 : v_8.toInt = v_7.toInt + 1 := by rw [ev_8]; exact addE rfl (by decide +kernel) (by omega)
  refine x_iastG (pc := 25) (f := (mf 1)) (wf := fun g => (MW cI cJ M mr mi (va_up mf 1 g) mg)) E hw1 1 rfl (inbE (a := 5) (by decide +kernel) (by omega)) (fun _ => rfl) dX12_nextByRound_25 (fun g_9 H locs eg_9 hw10 => ?_)
  have ht_11 : (g_9 2).toInt = ((mf 1) 2).toInt := by rw [eg_9]; rfl
  have ht_12 : (g_9 3).toInt = ((mf 1) 3).toInt := by rw [eg_9]; rfl
  have ht_13 : (g_9 5).toInt = (v_8 : Int32).toInt := by rw [eg_9]; rfl
  refine lv_iload_n (pc := 26) E.1 E.2.1 dX12_nextByRound_26 rfl (lv_at hl6 0 rfl) ?_
  refine lv_iconst (pc := 27) (v := (-1)) E.1 E.2.1 dX12_nextByRound_27 (by decide +kernel) ?_
  refine lv_icmp_eq (pc := 28) (tgt := 49) E.1 E.2.1 dX12_nextByRound_28 (by decide) (fun c_14 => ?_) (fun c_14 => ?_)
  · skip
    have hc_14 := eqE (a := v_5.toInt) (b := (-1)) rfl (by decide +kernel) c_14
    refine lv_aload_n (pc := 49) E.1 E.2.1 dX12_nextByRound_49 rfl (lv_at hl6 1 rfl) ?_
    refine x_get (pc := 50) (T := TX12) (N := 70) (ci := 12) (v := .ref (mr 1)) E hw10 inX12 0 1 q_1400 rfl rfl (by decide) rfl rfl dX12_nextByRound_50 ?_
    refine lv_iconst (pc := 53) (v := 3) E.1 E.2.1 dX12_nextByRound_53 (by decide +kernel) ?_
    refine x_iald (pc := 54) (f := g_9) E hw10 1 rfl (inbE (a := 3) (by decide +kernel) (by omega)) dX12_nextByRound_54 ?_
    refine lv_topi (fun v_15 ev_15 => ?_)
    have hv_15 : v_15.toInt = (g_9 3).toInt := by rw [ev_15]; rfl
    exact em_i (w1 := (fun (u : (Nat → Int32)) => (MW cI cJ M mr mi (va_up mf 1 u) mg))) E hr hlk g_9 hw10 ⟨(by show 0 ≤ v_15.toInt; omega), (by show v_15.toInt + 1 ≤ (mi 6).toInt; omega), (by show (g_9 2).toInt = ((mf 1) 2).toInt; omega), (by show (g_9 3).toInt = ((mf 1) 3).toInt; omega), (by show (g_9 5).toInt = ((mf 1) 5).toInt + 1; omega)⟩ (Nat.le_of_ble_eq_true rfl) (Nat.le_of_ble_eq_true rfl) dX12_nextByRound_55
  · skip
    have hc_14 := neE (a := v_5.toInt) (b := (-1)) rfl (by decide +kernel) c_14
    refine lv_aload_n (pc := 31) E.1 E.2.1 dX12_nextByRound_31 rfl (lv_at hl6 1 rfl) ?_
    refine lv_aload_n (pc := 32) E.1 E.2.1 dX12_nextByRound_32 rfl (lv_at hl6 1 rfl) ?_
    refine x_get (pc := 33) (T := TX12) (N := 70) (ci := 12) (v := .ref (mr 1)) E hw10 inX12 0 1 q_1400 rfl rfl (by decide) rfl rfl dX12_nextByRound_33 ?_
    refine lv_iconst (pc := 36) (v := 3) E.1 E.2.1 dX12_nextByRound_36 (by decide +kernel) ?_
    refine x_iald (pc := 37) (f := g_9) E hw10 1 rfl (inbE (a := 3) (by decide +kernel) (by omega)) dX12_nextByRound_37 ?_
    refine lv_topi (fun v_16 ev_16 => ?_)
    have hv_16 : v_16.toInt = (g_9 3).toInt := by rw [ev_16]; rfl
    refine lv_iload_n (pc := 38) E.1 E.2.1 dX12_nextByRound_38 rfl (lv_at hl6 0 rfl) ?_
    refine cm_i (pc := 39) hw10 (rn_M (As := [.int v_16, .int v_5]) (rest := []) E hw10 (s_isReached l D cI cJ _ M mr mi (va_up mf 1 g_9) mg v_16 v_5 (by show 0 ≤ v_16.toInt ∧ v_16.toInt ≤ 9; omega) (by show 0 ≤ v_5.toInt ∧ v_5.toInt ≤ 9; omega)) (gdV q_1843 q_1845 q_93 q_162 q_1846) hdV_X12_isReached ⟨rfl, rfl⟩ ⟨(Nat.le_of_ble_eq_true rfl), (Nat.le_of_ble_eq_true rfl)⟩ ⟨(Nat.le_of_ble_eq_true rfl), (Nat.le_of_ble_eq_true rfl)⟩ 12 rfl rfl rfl rfl hl6.1 rfl (Nat.le_of_ble_eq_true rfl) dX12_nextByRound_39) (fun r_18 u_17 H1 locs hp hw19 => ?_)
    generalize H1 = H at hw19 ⊢
    have hw20 : WD D A s.heap (MW cI cJ M mr mi (va_up mf 1 g_9) mg) H locs := hw19
    have hp_21 := hp
    rcases hp_21 with ⟨rfl, ha_22⟩ | rfl | ⟨rfl, ha_23⟩
    · skip
      have ha_22 : v_16.toInt = v_5.toInt := ha_22
      refine lv_if_eq (pc := 42) (tgt := 49) E.1 E.2.1 dX12_nextByRound_42 (by decide) (fun c_24 => absurd c_24 (mneE (a := 1) (b := 0) (by decide +kernel) (by decide +kernel) (by omega))) (fun _ => ?_)
      refine lv_iload_n (pc := 45) E.1 E.2.1 dX12_nextByRound_45 rfl (lv_at hl6 0 rfl) ?_
      refine lv_goto (pc := 46) (tgt := 55) E.1 E.2.1 dX12_nextByRound_46 (by decide) ?_
      exact em_i (w1 := (fun (u : (Nat → Int32)) => (MW cI cJ M mr mi (va_up mf 1 u) mg))) E hr hlk g_9 hw20 ⟨(by show 0 ≤ v_5.toInt; omega), (by show v_5.toInt + 1 ≤ (mi 6).toInt; omega), (by show (g_9 2).toInt = ((mf 1) 2).toInt; omega), (by show (g_9 3).toInt = ((mf 1) 3).toInt; omega), (by show (g_9 5).toInt = ((mf 1) 5).toInt + 1; omega)⟩ (Nat.le_of_ble_eq_true rfl) (Nat.le_of_ble_eq_true rfl) dX12_nextByRound_55
    · skip
      refine lv_if_eq (pc := 42) (tgt := 49) E.1 E.2.1 dX12_nextByRound_42 (by decide) (fun c_25 => absurd c_25 (mneE (a := 1) (b := 0) (by decide +kernel) (by decide +kernel) (by omega))) (fun _ => ?_)
      refine lv_iload_n (pc := 45) E.1 E.2.1 dX12_nextByRound_45 rfl (lv_at hl6 0 rfl) ?_
      refine lv_goto (pc := 46) (tgt := 55) E.1 E.2.1 dX12_nextByRound_46 (by decide) ?_
      exact em_i (w1 := (fun (u : (Nat → Int32)) => (MW cI cJ M mr mi (va_up mf 1 u) mg))) E hr hlk g_9 hw20 ⟨(by show 0 ≤ v_5.toInt; omega), (by show v_5.toInt + 1 ≤ (mi 6).toInt; omega), (by show (g_9 2).toInt = ((mf 1) 2).toInt; omega), (by show (g_9 3).toInt = ((mf 1) 3).toInt; omega), (by show (g_9 5).toInt = ((mf 1) 5).toInt + 1; omega)⟩ (Nat.le_of_ble_eq_true rfl) (Nat.le_of_ble_eq_true rfl) dX12_nextByRound_55
    · skip
      have ha_23 : ¬ v_16.toInt = v_5.toInt := ha_23
      refine lv_if_eq (pc := 42) (tgt := 49) E.1 E.2.1 dX12_nextByRound_42 (by decide) (fun _ => ?_) (fun c_26 => absurd (meqE (a := 0) (b := 0) (by decide +kernel) (by decide +kernel) (by omega)) c_26)
      refine lv_aload_n (pc := 49) E.1 E.2.1 dX12_nextByRound_49 rfl (lv_at hl6 1 rfl) ?_
      refine x_get (pc := 50) (T := TX12) (N := 70) (ci := 12) (v := .ref (mr 1)) E hw20 inX12 0 1 q_1400 rfl rfl (by decide) rfl rfl dX12_nextByRound_50 ?_
      refine lv_iconst (pc := 53) (v := 3) E.1 E.2.1 dX12_nextByRound_53 (by decide +kernel) ?_
      refine x_iald (pc := 54) (f := g_9) E hw20 1 rfl (inbE (a := 3) (by decide +kernel) (by omega)) dX12_nextByRound_54 ?_
      refine lv_topi (fun v_27 ev_27 => ?_)
      have hv_27 : v_27.toInt = (g_9 3).toInt := by rw [ev_27]; rfl
      have hsv_27 : v_27.toInt = v_16.toInt := by rw [ev_27, ev_16]
      exact em_i (w1 := (fun (u : (Nat → Int32)) => (MW cI cJ M mr mi (va_up mf 1 u) mg))) E hr hlk g_9 hw20 ⟨(by show 0 ≤ v_27.toInt; omega), (by show v_27.toInt + 1 ≤ (mi 6).toInt; omega), (by show (g_9 2).toInt = ((mf 1) 2).toInt; omega), (by show (g_9 3).toInt = ((mf 1) 3).toInt; omega), (by show (g_9 5).toInt = ((mf 1) 5).toInt + 1; omega)⟩ (Nat.le_of_ble_eq_true rfl) (Nat.le_of_ble_eq_true rfl) dX12_nextByRound_55

set_option maxHeartbeats 4000000 in
set_option maxRecDepth 100000 in
theorem s_goesBy (l : Launch) (D : va_G) (cI cJ : ClassId) (sz M : Nat) (mr : Nat → Nat) (mi : Nat → Int32) (mf : Nat → Nat → Int32) (mg : Nat → Nat → Int64)  (h0 : 0 ≤ ((mf 1) 3).toInt) (h1 : ((mf 1) 3).toInt + 1 ≤ (mi 6).toInt) (h2 : (mi 6).toInt ≤ 10) (h3 : 0 ≤ ((mf 1) 2).toInt ∧ ((mf 1) 2).toInt ≤ 150) (h4 : 0 ≤ ((mf 1) 5).toInt ∧ ((mf 1) 5).toInt ≤ 200) (h5 : 0 ≤ (mi 44).toInt ∧ (mi 44).toInt ≤ 10) (h6 : 0 ≤ (mi 42).toInt ∧ (mi 42).toInt ≤ 40) (h7 : 0 ≤ ((mf 27) 0).toInt) (h8 : ((mf 27) 0).toInt ≤ 16) (h9 : 0 ≤ ((mf 27) 1).toInt) (h10 : ((mf 27) 1).toInt ≤ 16) (h11 : 0 ≤ (mi 49).toInt ∧ (mi 49).toInt ≤ 200) (h12 : (-29) ≤ (mi 15).toInt ∧ (mi 15).toInt ≤ 69) (a_paths : pathsOK (mf 43)) (lf_law0 : LW 0 0 (mf 31) (mf 32) (mf 28) (mf 29) (mf 30) ((mf 27) 0).toInt 400) (lf_law1 : LW 16 400 (mf 31) (mf 32) (mf 28) (mf 29) (mf 30) ((mf 27) 1).toInt 400) (lf_round : rndOK (mi 49).toInt (mi 6).toInt (mf 50)) : Met l yX12_goesBy (Cond.code yX12_goesBy cX12_goesBy 7 (some .boolean) :: GW) ({ frames := 7, cells := 0, slots := 0, locals := 175 } : Room) (va_Pc [.ref M] (PW D cI cJ sz (MW cI cJ M mr mi mf mg) xT)) (va_Qi (fun (r : Int32) (u : (Nat → Int32) × (Nat → Int32) × (Nat → Int32) × (Nat → Int32) × (Nat → Int32)) => (0 ≤ r.toInt) ∧ (r.toInt ≤ 1) ∧ (0 ≤ (u.1 2).toInt) ∧ ((u.1 2).toInt ≤ 150) ∧ (0 ≤ (u.1 5).toInt) ∧ ((u.1 5).toInt ≤ 200) ∧ (0 ≤ (u.1 3).toInt) ∧ ((u.1 3).toInt + 1 ≤ (mi 6).toInt)) (fun u => QW D cI cJ (va_A (MW cI cJ M mr mi mf mg) sz) ((fun (u : (Nat → Int32) × (Nat → Int32) × (Nat → Int32) × (Nat → Int32) × (Nat → Int32)) => (MW cI cJ M mr mi (va_up (va_up (va_up (va_up (va_up mf 1 u.1) 55 u.2.1) 53 u.2.2.1) 54 u.2.2.2.1) 16 u.2.2.2.2) mg)) u)) (va_A (MW cI cJ M mr mi mf mg) sz)) 0 0 (va_A (MW cI cJ M mr mi mf mg) sz) := by
  refine mk_met (y := yX12_goesBy) (bytes := cX12_goesBy) (maxL := 7) (avs := [.ref M]) (WS := (MW cI cJ M mr mi mf mg)) (Qf := fun A => va_Qi (fun (r : Int32) (u : (Nat → Int32) × (Nat → Int32) × (Nat → Int32) × (Nat → Int32) × (Nat → Int32)) => (0 ≤ r.toInt) ∧ (r.toInt ≤ 1) ∧ (0 ≤ (u.1 2).toInt) ∧ ((u.1 2).toInt ≤ 150) ∧ (0 ≤ (u.1 5).toInt) ∧ ((u.1 5).toInt ≤ 200) ∧ (0 ≤ (u.1 3).toInt) ∧ ((u.1 3).toInt + 1 ≤ (mi 6).toInt)) (fun u => QW D cI cJ A ((fun (u : (Nat → Int32) × (Nat → Int32) × (Nat → Int32) × (Nat → Int32) × (Nat → Int32)) => (MW cI cJ M mr mi (va_up (va_up (va_up (va_up (va_up mf 1 u.1) 55 u.2.1) 53 u.2.2.1) 54 u.2.2.2.1) 16 u.2.2.2.2) mg)) u)) A) (by decide) (Nat.le_of_ble_eq_true rfl) ?_
  intro p e s m below meth c A ls E hr hlk hnm hX hw1 hl2
  have hl3 : lv_has ls 7 [(0, .ref M)] := hl2
  have join_4 : ∀ (x_5 : Int32) (x_6 : Int32) (x_7 : Int32) (x_8 : Int32) (g_9 : Nat → Int32) (g_10 : Nat → Int32) (g_11 : Nat → Int32) (g_12 : Nat → Int32) (H : Heap) (locs : List Loc) (ls : Array Slot), (0 ≤ x_5.toInt) ∧ (x_5.toInt + 1 ≤ (mi 6).toInt) ∧ (0 ≤ x_6.toInt) ∧ (x_6.toInt ≤ 1) ∧ (0 ≤ (g_9 2).toInt) ∧ ((g_9 2).toInt ≤ 150) ∧ (0 ≤ (g_9 3).toInt) ∧ ((g_9 3).toInt + 1 ≤ (mi 6).toInt) ∧ (0 ≤ (g_9 5).toInt) ∧ ((g_9 5).toInt ≤ 200) → WD D A s.heap (MW cI cJ M mr mi (va_up (va_up (va_up (va_up mf 1 g_9) 53 g_11) 54 g_12) 55 g_10) mg) H locs → lv_has ls 7 [(0, .ref M), (1, .int x_5), (3, .int x_6), (4, .int x_7), (5, .int x_8)] → W p l e ({ frames := 7, cells := 0, slots := 0, locals := 175 } : Room) s m ([.ref M] : List Value).toArray below meth c H locs 0 0 (MQ below (va_Qi (fun (r : Int32) (u : (Nat → Int32) × (Nat → Int32) × (Nat → Int32) × (Nat → Int32) × (Nat → Int32)) => (0 ≤ r.toInt) ∧ (r.toInt ≤ 1) ∧ (0 ≤ (u.1 2).toInt) ∧ ((u.1 2).toInt ≤ 150) ∧ (0 ≤ (u.1 5).toInt) ∧ ((u.1 5).toInt ≤ 200) ∧ (0 ≤ (u.1 3).toInt) ∧ ((u.1 3).toInt + 1 ≤ (mi 6).toInt)) (fun u => QW D cI cJ A ((fun (u : (Nat → Int32) × (Nat → Int32) × (Nat → Int32) × (Nat → Int32) × (Nat → Int32)) => (MW cI cJ M mr mi (va_up (va_up (va_up (va_up (va_up mf 1 u.1) 55 u.2.1) 53 u.2.2.1) 54 u.2.2.2.1) 16 u.2.2.2.2) mg)) u)) A) ([.ref M] : List Value).toArray s 0 0 A) (F0 m 220 ls []) := by
    intro x_5 x_6 x_7 x_8 g_9 g_10 g_11 g_12 H locs ls hinv hw13 hl14
    obtain ⟨hj_12_0, hj_12_1, hj_12_2, hj_12_3, hj_12_4, hj_12_5, hj_12_6, hj_12_7, hj_12_8, hj_12_9⟩ := hinv
    refine lv_aload_n (pc := 220) E.1 E.2.1 dX12_goesBy_220 rfl (lv_at hl14 0 rfl) ?_
    refine lv_iload_n (pc := 221) E.1 E.2.1 dX12_goesBy_221 rfl (lv_at hl14 1 rfl) ?_
    refine lv_iload_n (pc := 222) E.1 E.2.1 dX12_goesBy_222 rfl (lv_at hl14 2 rfl) ?_
    refine lv_iload (pc := 223) E.1 E.2.1 dX12_goesBy_223 (lv_at hl14 3 rfl) ?_
    refine lv_iload (pc := 225) E.1 E.2.1 dX12_goesBy_225 (lv_at hl14 4 rfl) ?_
    refine cm_v (pc := 227) hw13 (rn_M (As := [.int x_5, .int x_6, .int x_7, .int x_8]) (rest := []) E hw13 (s_notes l D cI cJ _ M mr mi (va_up (va_up (va_up (va_up mf 1 g_9) 53 g_11) 54 g_12) 55 g_10) mg x_5 x_6 x_7 x_8 ⟨hj_12_4, hj_12_5⟩) (gdV q_1903 q_1905 q_108 q_162 q_1906) hdV_X12_notes ⟨rfl, rfl⟩ ⟨(Nat.le_of_ble_eq_true rfl), (Nat.le_of_ble_eq_true rfl)⟩ ⟨(Nat.le_of_ble_eq_true rfl), (Nat.le_of_ble_eq_true rfl)⟩ 12 rfl rfl rfl rfl hl14.1 rfl (Nat.le_of_ble_eq_true rfl) dX12_goesBy_227) (fun u_15 H1 locs hp hw17 => ?_)
    obtain ⟨gnow_18, gbook_19⟩ := u_15
    generalize H1 = H at hw17 ⊢
    have hw20 : WD D A s.heap (MW cI cJ M mr mi (va_up (va_up (va_up (va_up (va_up mf 1 gnow_18) 16 gbook_19) 53 g_11) 54 g_12) 55 g_10) mg) H locs := hw17
    obtain ⟨hp_21, hp_22, hp_23⟩ := hp
    have hp_21 : 0 ≤ (gnow_18 2).toInt ∧ (gnow_18 2).toInt ≤ 150 := hp_21
    have hp_22 : (gnow_18 3).toInt = (g_9 3).toInt := hp_22
    have hp_23 : (gnow_18 5).toInt = (g_9 5).toInt := hp_23
    refine lv_aload_n (pc := 230) E.1 E.2.1 dX12_goesBy_230 rfl (lv_at hl14 0 rfl) ?_
    refine cm_v (pc := 231) hw20 (rn_M (As := []) (rest := []) E hw20 (s_owes l D cI cJ _ M mr mi (va_up (va_up (va_up (va_up (va_up mf 1 gnow_18) 16 gbook_19) 53 g_11) 54 g_12) 55 g_10) mg (by show 0 ≤ (mi 6).toInt ∧ (mi 6).toInt ≤ 10; omega) h12) (gdV q_1907 q_1909 q_109 q_162 q_1910) hdV_X12_owes ⟨rfl, rfl⟩ ⟨(Nat.le_of_ble_eq_true rfl), (Nat.le_of_ble_eq_true rfl)⟩ ⟨(Nat.le_of_ble_eq_true rfl), (Nat.le_of_ble_eq_true rfl)⟩ 12 rfl rfl rfl rfl hl14.1 rfl (Nat.le_of_ble_eq_true rfl) dX12_goesBy_231) (fun u_24 H1 locs hp hw26 => ?_)
    obtain ⟨gnow_27, rfl⟩ : ∃ z, z = u_24 := ⟨_, rfl⟩
    generalize H1 = H at hw26 ⊢
    have hw28 : WD D A s.heap (MW cI cJ M mr mi (va_up (va_up (va_up (va_up (va_up mf 1 gnow_27) 16 gbook_19) 53 g_11) 54 g_12) 55 g_10) mg) H locs := hw26
    obtain ⟨hp_29, hp_30, hp_31⟩ := hp
    have hp_29 : (gnow_27 2).toInt = (gnow_18 2).toInt := hp_29
    have hp_30 : (gnow_27 3).toInt = (gnow_18 3).toInt := hp_30
    have hp_31 : (gnow_27 5).toInt = (gnow_18 5).toInt := hp_31
    refine lv_aload_n (pc := 234) E.1 E.2.1 dX12_goesBy_234 rfl (lv_at hl14 0 rfl) ?_
    refine cm_v (pc := 235) hw28 (rn_M (As := []) (rest := []) E hw28 (s_spoils l D cI cJ _ M mr mi (va_up (va_up (va_up (va_up (va_up mf 1 gnow_27) 16 gbook_19) 53 g_11) 54 g_12) 55 g_10) mg h5) (gdV q_1915 q_1917 q_111 q_162 q_1918) hdV_X12_spoils ⟨rfl, rfl⟩ ⟨(Nat.le_of_ble_eq_true rfl), (Nat.le_of_ble_eq_true rfl)⟩ ⟨(Nat.le_of_ble_eq_true rfl), (Nat.le_of_ble_eq_true rfl)⟩ 12 rfl rfl rfl rfl hl14.1 rfl (Nat.le_of_ble_eq_true rfl) dX12_goesBy_235) (fun u_32 H1 locs hp hw34 => ?_)
    obtain ⟨gnow_35, rfl⟩ : ∃ z, z = u_32 := ⟨_, rfl⟩
    generalize H1 = H at hw34 ⊢
    have hw36 : WD D A s.heap (MW cI cJ M mr mi (va_up (va_up (va_up (va_up (va_up mf 1 gnow_35) 16 gbook_19) 53 g_11) 54 g_12) 55 g_10) mg) H locs := hw34
    obtain ⟨hp_37, hp_38, hp_39⟩ := hp
    have hp_37 : (gnow_35 2).toInt = (gnow_27 2).toInt := hp_37
    have hp_38 : (gnow_35 3).toInt = (gnow_27 3).toInt := hp_38
    have hp_39 : (gnow_35 5).toInt = (gnow_27 5).toInt := hp_39
    refine lv_aload_n (pc := 238) E.1 E.2.1 dX12_goesBy_238 rfl (lv_at hl14 0 rfl) ?_
    refine cm_v (pc := 239) hw36 (rn_M (As := []) (rest := []) E hw36 (s_snows l D cI cJ _ M mr mi (va_up (va_up (va_up (va_up (va_up mf 1 gnow_35) 16 gbook_19) 53 g_11) 54 g_12) 55 g_10) mg ) (gdV q_1919 q_1921 q_112 q_162 q_1922) hdV_X12_snows ⟨rfl, rfl⟩ ⟨(Nat.le_of_ble_eq_true rfl), (Nat.le_of_ble_eq_true rfl)⟩ ⟨(Nat.le_of_ble_eq_true rfl), (Nat.le_of_ble_eq_true rfl)⟩ 12 rfl rfl rfl rfl hl14.1 rfl (Nat.le_of_ble_eq_true rfl) dX12_goesBy_239) (fun u_40 H1 locs hp hw42 => ?_)
    obtain ⟨gnow_43, rfl⟩ : ∃ z, z = u_40 := ⟨_, rfl⟩
    generalize H1 = H at hw42 ⊢
    have hw44 : WD D A s.heap (MW cI cJ M mr mi (va_up (va_up (va_up (va_up (va_up mf 1 gnow_43) 16 gbook_19) 53 g_11) 54 g_12) 55 g_10) mg) H locs := hw42
    obtain ⟨hp_45, hp_46, hp_47⟩ := hp
    have hp_45 : (gnow_43 2).toInt = (gnow_35 2).toInt := hp_45
    have hp_46 : (gnow_43 3).toInt = (gnow_35 3).toInt := hp_46
    have hp_47 : (gnow_43 5).toInt = (gnow_35 5).toInt := hp_47
    refine lv_aload_n (pc := 242) E.1 E.2.1 dX12_goesBy_242 rfl (lv_at hl14 0 rfl) ?_
    refine x_get (pc := 243) (T := TX12) (N := 70) (ci := 12) (v := .ref (mr 1)) E hw44 inX12 0 1 q_1400 rfl rfl (by decide) rfl rfl dX12_goesBy_243 ?_
    refine lv_iconst (pc := 246) (v := 0) E.1 E.2.1 dX12_goesBy_246 (by decide +kernel) ?_
    refine lv_aload_n (pc := 247) E.1 E.2.1 dX12_goesBy_247 rfl (lv_at hl14 0 rfl) ?_
    refine x_get (pc := 248) (T := TX12) (N := 70) (ci := 12) (v := .ref (mr 1)) E hw44 inX12 0 1 q_1400 rfl rfl (by decide) rfl rfl dX12_goesBy_248 ?_
    refine lv_iconst (pc := 251) (v := 0) E.1 E.2.1 dX12_goesBy_251 (by decide +kernel) ?_
    refine x_iald (pc := 252) (f := gnow_43) E hw44 1 rfl (inbE (a := 0) (by decide +kernel) (by omega)) dX12_goesBy_252 ?_
    refine lv_topi (fun v_48 ev_48 => ?_)
    refine lv_iconst (pc := 253) (v := 1) E.1 E.2.1 dX12_goesBy_253 (by decide +kernel) ?_
    refine lv_iadd (pc := 254) E.1 E.2.1 dX12_goesBy_254 ?_
    refine lv_topi (fun v_49 ev_49 => ?_)
    refine x_iastG (pc := 255) (f := gnow_43) (wf := fun g => (MW cI cJ M mr mi (va_up (va_up (va_up (va_up (va_up mf 1 g) 16 gbook_19) 53 g_11) 54 g_12) 55 g_10) mg)) E hw44 1 rfl (inbE (a := 0) (by decide +kernel) (by omega)) (fun _ => rfl) dX12_goesBy_255 (fun g_50 H locs eg_50 hw51 => ?_)
    have ht_52 : (g_50 2).toInt = (gnow_43 2).toInt := by rw [eg_50]; rfl
    have ht_53 : (g_50 3).toInt = (gnow_43 3).toInt := by rw [eg_50]; rfl
    have ht_54 : (g_50 5).toInt = (gnow_43 5).toInt := by rw [eg_50]; rfl
    refine lv_iload_n (pc := 256) E.1 E.2.1 dX12_goesBy_256 rfl (lv_at hl14 2 rfl) ?_
    exact em_z (w1 := (fun (u : (Nat → Int32) × (Nat → Int32) × (Nat → Int32) × (Nat → Int32) × (Nat → Int32)) => (MW cI cJ M mr mi (va_up (va_up (va_up (va_up (va_up mf 1 u.1) 55 u.2.1) 53 u.2.2.1) 54 u.2.2.2.1) 16 u.2.2.2.2) mg))) E hr hlk (g_50, g_10, g_11, g_12, gbook_19) hw51 ⟨hj_12_2, hj_12_3, (by show 0 ≤ (g_50 2).toInt; omega), (by show (g_50 2).toInt ≤ 150; omega), (by show 0 ≤ (g_50 5).toInt; omega), (by show (g_50 5).toInt ≤ 200; omega), (by show 0 ≤ (g_50 3).toInt; omega), (by show (g_50 3).toInt + 1 ≤ (mi 6).toInt; omega)⟩ (bool_nar (by omega)) (Nat.le_of_ble_eq_true rfl) (Nat.le_of_ble_eq_true rfl) dX12_goesBy_257
  have join_55 : ∀ (x_56 : Int32) (x_57 : Int32) (x_58 : Int32) (x_59 : Int32) (x_60 : Int32) (x_61 : Int32) (g_62 : Nat → Int32) (g_63 : Nat → Int32) (g_64 : Nat → Int32) (g_65 : Nat → Int32) (H : Heap) (locs : List Loc) (ls : Array Slot), (0 ≤ x_56.toInt) ∧ (x_56.toInt + 1 ≤ (mi 6).toInt) ∧ (0 ≤ x_58.toInt) ∧ (x_58.toInt ≤ 1) ∧ (0 ≤ (g_62 2).toInt) ∧ ((g_62 2).toInt ≤ 150) ∧ (0 ≤ (g_62 3).toInt) ∧ ((g_62 3).toInt + 1 ≤ (mi 6).toInt) ∧ (0 ≤ (g_62 5).toInt) ∧ ((g_62 5).toInt ≤ 200) → WD D A s.heap (MW cI cJ M mr mi (va_up (va_up (va_up (va_up mf 1 g_62) 53 g_64) 54 g_65) 55 g_63) mg) H locs → lv_has ls 7 [(0, .ref M), (1, .int x_56), (2, .int x_57), (3, .int x_58), (4, .int x_59), (5, .int x_60), (6, .int x_61)] → W p l e ({ frames := 7, cells := 0, slots := 0, locals := 175 } : Room) s m ([.ref M] : List Value).toArray below meth c H locs 0 0 (MQ below (va_Qi (fun (r : Int32) (u : (Nat → Int32) × (Nat → Int32) × (Nat → Int32) × (Nat → Int32) × (Nat → Int32)) => (0 ≤ r.toInt) ∧ (r.toInt ≤ 1) ∧ (0 ≤ (u.1 2).toInt) ∧ ((u.1 2).toInt ≤ 150) ∧ (0 ≤ (u.1 5).toInt) ∧ ((u.1 5).toInt ≤ 200) ∧ (0 ≤ (u.1 3).toInt) ∧ ((u.1 3).toInt + 1 ≤ (mi 6).toInt)) (fun u => QW D cI cJ A ((fun (u : (Nat → Int32) × (Nat → Int32) × (Nat → Int32) × (Nat → Int32) × (Nat → Int32)) => (MW cI cJ M mr mi (va_up (va_up (va_up (va_up (va_up mf 1 u.1) 55 u.2.1) 53 u.2.2.1) 54 u.2.2.2.1) 16 u.2.2.2.2) mg)) u)) A) ([.ref M] : List Value).toArray s 0 0 A) (F0 m 147 ls []) := by
    intro x_56 x_57 x_58 x_59 x_60 x_61 g_62 g_63 g_64 g_65 H locs ls hinv hw66 hl67
    obtain ⟨hj_65_0, hj_65_1, hj_65_2, hj_65_3, hj_65_4, hj_65_5, hj_65_6, hj_65_7, hj_65_8, hj_65_9⟩ := hinv
    refine lv_aload_n (pc := 147) E.1 E.2.1 dX12_goesBy_147 rfl (lv_at hl67 0 rfl) ?_
    refine x_get (pc := 148) (T := TX12) (N := 70) (ci := 12) (v := .ref (mr 1)) E hw66 inX12 0 1 q_1400 rfl rfl (by decide) rfl rfl dX12_goesBy_148 ?_
    refine lv_bipush (pc := 151) (v := 26) E.1 E.2.1 dX12_goesBy_151 (by decide +kernel) ?_
    refine lv_iload_n (pc := 153) E.1 E.2.1 dX12_goesBy_153 rfl (lv_at hl67 1 rfl) ?_
    refine lv_iadd (pc := 154) E.1 E.2.1 dX12_goesBy_154 ?_
    refine lv_topi (fun v_68 ev_68 => ?_)
    have hv_68 : v_68.toInt = 26 + x_56.toInt := by rw [ev_68]; exact addE (by decide +kernel) rfl (by omega)
    refine lv_aload_n (pc := 155) E.1 E.2.1 dX12_goesBy_155 rfl (lv_at hl67 0 rfl) ?_
    refine x_get (pc := 156) (T := TX12) (N := 70) (ci := 12) (v := .ref (mr 1)) E hw66 inX12 0 1 q_1400 rfl rfl (by decide) rfl rfl dX12_goesBy_156 ?_
    refine lv_bipush (pc := 159) (v := 26) E.1 E.2.1 dX12_goesBy_159 (by decide +kernel) ?_
    refine lv_iload_n (pc := 161) E.1 E.2.1 dX12_goesBy_161 rfl (lv_at hl67 1 rfl) ?_
    refine lv_iadd (pc := 162) E.1 E.2.1 dX12_goesBy_162 ?_
    refine lv_topi (fun v_69 ev_69 => ?_)
    have hv_69 : v_69.toInt = 26 + x_56.toInt := by rw [ev_69]; exact addE (by decide +kernel) rfl (by omega)
    refine x_iald (pc := 163) (f := g_62) E hw66 1 rfl (inbE (a := v_69.toInt) rfl (by omega)) dX12_goesBy_163 ?_
    refine lv_topi (fun v_70 ev_70 => ?_)
    refine lv_iconst (pc := 164) (v := 1) E.1 E.2.1 dX12_goesBy_164 (by decide +kernel) ?_
    refine lv_iadd (pc := 165) E.1 E.2.1 dX12_goesBy_165 ?_
    refine lv_topi (fun v_71 ev_71 => ?_)
    refine x_iastG (pc := 166) (f := g_62) (wf := fun g => (MW cI cJ M mr mi (va_up (va_up (va_up (va_up mf 1 g) 53 g_64) 54 g_65) 55 g_63) mg)) E hw66 1 rfl (inbE (a := v_68.toInt) rfl (by omega)) (fun _ => rfl) dX12_goesBy_166 (fun g_72 H locs eg_72 hw73 => ?_)
    have ht_74 : (g_72 2).toInt = (g_62 2).toInt := by rw [eg_72, pk_un (by have q9 := idxI (x := v_68) (by omega); omega)]
    have ht_75 : (g_72 3).toInt = (g_62 3).toInt := by rw [eg_72, pk_un (by have q9 := idxI (x := v_68) (by omega); omega)]
    have ht_76 : (g_72 5).toInt = (g_62 5).toInt := by rw [eg_72, pk_un (by have q9 := idxI (x := v_68) (by omega); omega)]
    refine lv_aload_n (pc := 167) E.1 E.2.1 dX12_goesBy_167 rfl (lv_at hl67 0 rfl) ?_
    refine x_get (pc := 168) (T := TX12) (N := 70) (ci := 12) (v := .ref (mr 1)) E hw73 inX12 0 1 q_1400 rfl rfl (by decide) rfl rfl dX12_goesBy_168 ?_
    refine lv_bipush (pc := 171) (v := 36) E.1 E.2.1 dX12_goesBy_171 (by decide +kernel) ?_
    refine lv_iload_n (pc := 173) E.1 E.2.1 dX12_goesBy_173 rfl (lv_at hl67 1 rfl) ?_
    refine lv_iadd (pc := 174) E.1 E.2.1 dX12_goesBy_174 ?_
    refine lv_topi (fun v_77 ev_77 => ?_)
    have hv_77 : v_77.toInt = 36 + x_56.toInt := by rw [ev_77]; exact addE (by decide +kernel) rfl (by omega)
    refine lv_aload_n (pc := 175) E.1 E.2.1 dX12_goesBy_175 rfl (lv_at hl67 0 rfl) ?_
    refine x_get (pc := 176) (T := TX12) (N := 70) (ci := 12) (v := .ref (mr 1)) E hw73 inX12 0 1 q_1400 rfl rfl (by decide) rfl rfl dX12_goesBy_176 ?_
    refine lv_iconst (pc := 179) (v := 0) E.1 E.2.1 dX12_goesBy_179 (by decide +kernel) ?_
    refine x_iald (pc := 180) (f := g_72) E hw73 1 rfl (inbE (a := 0) (by decide +kernel) (by omega)) dX12_goesBy_180 ?_
    refine lv_topi (fun v_78 ev_78 => ?_)
    refine lv_iconst (pc := 181) (v := 1) E.1 E.2.1 dX12_goesBy_181 (by decide +kernel) ?_
    refine lv_iadd (pc := 182) E.1 E.2.1 dX12_goesBy_182 ?_
    refine lv_topi (fun v_79 ev_79 => ?_)
    refine x_iastG (pc := 183) (f := g_72) (wf := fun g => (MW cI cJ M mr mi (va_up (va_up (va_up (va_up mf 1 g) 53 g_64) 54 g_65) 55 g_63) mg)) E hw73 1 rfl (inbE (a := v_77.toInt) rfl (by omega)) (fun _ => rfl) dX12_goesBy_183 (fun g_80 H locs eg_80 hw81 => ?_)
    have ht_82 : (g_80 2).toInt = (g_72 2).toInt := by rw [eg_80, pk_un (by have q9 := idxI (x := v_77) (by omega); omega)]
    have ht_83 : (g_80 3).toInt = (g_72 3).toInt := by rw [eg_80, pk_un (by have q9 := idxI (x := v_77) (by omega); omega)]
    have ht_84 : (g_80 5).toInt = (g_72 5).toInt := by rw [eg_80, pk_un (by have q9 := idxI (x := v_77) (by omega); omega)]
    refine lv_aload_n (pc := 184) E.1 E.2.1 dX12_goesBy_184 rfl (lv_at hl67 0 rfl) ?_
    refine x_get (pc := 185) (T := TX12) (N := 70) (ci := 12) (v := .ref (mr 1)) E hw81 inX12 0 1 q_1400 rfl rfl (by decide) rfl rfl dX12_goesBy_185 ?_
    refine lv_bipush (pc := 188) (v := 16) E.1 E.2.1 dX12_goesBy_188 (by decide +kernel) ?_
    refine lv_iload_n (pc := 190) E.1 E.2.1 dX12_goesBy_190 rfl (lv_at hl67 1 rfl) ?_
    refine lv_iadd (pc := 191) E.1 E.2.1 dX12_goesBy_191 ?_
    refine lv_topi (fun v_85 ev_85 => ?_)
    have hv_85 : v_85.toInt = 16 + x_56.toInt := by rw [ev_85]; exact addE (by decide +kernel) rfl (by omega)
    refine lv_aload_n (pc := 192) E.1 E.2.1 dX12_goesBy_192 rfl (lv_at hl67 0 rfl) ?_
    refine lv_aload_n (pc := 193) E.1 E.2.1 dX12_goesBy_193 rfl (lv_at hl67 0 rfl) ?_
    refine x_get (pc := 194) (T := TX12) (N := 70) (ci := 12) (v := .ref (mr 1)) E hw81 inX12 0 1 q_1400 rfl rfl (by decide) rfl rfl dX12_goesBy_194 ?_
    refine lv_bipush (pc := 197) (v := 16) E.1 E.2.1 dX12_goesBy_197 (by decide +kernel) ?_
    refine lv_iload_n (pc := 199) E.1 E.2.1 dX12_goesBy_199 rfl (lv_at hl67 1 rfl) ?_
    refine lv_iadd (pc := 200) E.1 E.2.1 dX12_goesBy_200 ?_
    refine lv_topi (fun v_86 ev_86 => ?_)
    have hv_86 : v_86.toInt = 16 + x_56.toInt := by rw [ev_86]; exact addE (by decide +kernel) rfl (by omega)
    refine x_iald (pc := 201) (f := g_80) E hw81 1 rfl (inbE (a := v_86.toInt) rfl (by omega)) dX12_goesBy_201 ?_
    refine lv_topi (fun v_87 ev_87 => ?_)
    refine lv_iconst (pc := 202) (v := 1) E.1 E.2.1 dX12_goesBy_202 (by decide +kernel) ?_
    refine lv_isub (pc := 203) E.1 E.2.1 dX12_goesBy_203 ?_
    refine lv_topi (fun v_88 ev_88 => ?_)
    refine lv_iconst (pc := 204) (v := 0) E.1 E.2.1 dX12_goesBy_204 (by decide +kernel) ?_
    refine lv_bipush (pc := 205) (v := 99) E.1 E.2.1 dX12_goesBy_205 (by decide +kernel) ?_
    refine cm_i (pc := 207) hw81 (rn_M (As := [.int v_88, .int 0, .int 99]) (rest := [.int v_85, .ref (mr 1)]) E hw81 (s_held l D cI cJ _ M mr mi (va_up (va_up (va_up (va_up mf 1 g_80) 53 g_64) 54 g_65) 55 g_63) mg v_88 0 99 (by show (0 : Int32).toInt ≤ (99 : Int32).toInt; have k_0 : (0 : Int32).toInt = 0 := (by decide +kernel); have k_1 : (99 : Int32).toInt = 99 := (by decide +kernel); omega)) (gdV q_1895 q_1897 q_106 q_162 q_1898) hdV_X12_held ⟨rfl, rfl⟩ ⟨(Nat.le_of_ble_eq_true rfl), (Nat.le_of_ble_eq_true rfl)⟩ ⟨(Nat.le_of_ble_eq_true rfl), (Nat.le_of_ble_eq_true rfl)⟩ 12 rfl rfl rfl rfl hl67.1 rfl (Nat.le_of_ble_eq_true rfl) dX12_goesBy_207) (fun r_90 u_89 H1 locs hp hw91 => ?_)
    generalize H1 = H at hw91 ⊢
    have hw92 : WD D A s.heap (MW cI cJ M mr mi (va_up (va_up (va_up (va_up mf 1 g_80) 53 g_64) 54 g_65) 55 g_63) mg) H locs := hw91
    have hp_93 := hp
    have hp_93 : (0 : Int32).toInt ≤ r_90.toInt ∧ r_90.toInt ≤ (99 : Int32).toInt := hp_93
    rw [show (0 : Int32).toInt = 0 from by decide +kernel] at hp_93
    rw [show (99 : Int32).toInt = 99 from by decide +kernel] at hp_93
    refine x_iastG (pc := 210) (f := g_80) (wf := fun g => (MW cI cJ M mr mi (va_up (va_up (va_up (va_up mf 1 g) 53 g_64) 54 g_65) 55 g_63) mg)) E hw92 1 rfl (inbE (a := v_85.toInt) rfl (by omega)) (fun _ => rfl) dX12_goesBy_210 (fun g_94 H locs eg_94 hw95 => ?_)
    have ht_96 : (g_94 2).toInt = (g_80 2).toInt := by rw [eg_94, pk_un (by have q9 := idxI (x := v_85) (by omega); omega)]
    have ht_97 : (g_94 3).toInt = (g_80 3).toInt := by rw [eg_94, pk_un (by have q9 := idxI (x := v_85) (by omega); omega)]
    have ht_98 : (g_94 5).toInt = (g_80 5).toInt := by rw [eg_94, pk_un (by have q9 := idxI (x := v_85) (by omega); omega)]
    refine lv_aload_n (pc := 211) E.1 E.2.1 dX12_goesBy_211 rfl (lv_at hl67 0 rfl) ?_
    refine lv_iload_n (pc := 212) E.1 E.2.1 dX12_goesBy_212 rfl (lv_at hl67 1 rfl) ?_
    refine lv_iload (pc := 213) E.1 E.2.1 dX12_goesBy_213 (lv_at hl67 6 rfl) ?_
    refine cm_i (pc := 215) hw95 (rn_M (As := [.int x_56, .int x_61]) (rest := []) E hw95 (s_doesNeeds l D cI cJ _ M mr mi (va_up (va_up (va_up (va_up mf 1 g_94) 53 g_64) 54 g_65) 55 g_63) mg x_56 x_61 h5) (gdV q_1899 q_1901 q_107 q_162 q_1902) hdV_X12_doesNeeds ⟨rfl, rfl⟩ ⟨(Nat.le_of_ble_eq_true rfl), (Nat.le_of_ble_eq_true rfl)⟩ ⟨(Nat.le_of_ble_eq_true rfl), (Nat.le_of_ble_eq_true rfl)⟩ 12 rfl rfl rfl rfl hl67.1 rfl (Nat.le_of_ble_eq_true rfl) dX12_goesBy_215) (fun r_100 u_99 H1 locs hp hw101 => ?_)
    obtain ⟨gnow_102, rfl⟩ : ∃ z, z = u_99 := ⟨_, rfl⟩
    generalize H1 = H at hw101 ⊢
    have hw103 : WD D A s.heap (MW cI cJ M mr mi (va_up (va_up (va_up (va_up mf 1 gnow_102) 53 g_64) 54 g_65) 55 g_63) mg) H locs := hw101
    obtain ⟨hp_104, hp_105, hp_106⟩ := hp
    have hp_104 : (gnow_102 2).toInt = (g_94 2).toInt := hp_104
    have hp_105 : (gnow_102 3).toInt = (g_94 3).toInt := hp_105
    have hp_106 : (gnow_102 5).toInt = (g_94 5).toInt := hp_106
    refine lv_istore (pc := 218) (lv' := [(5, .int r_100), (0, .ref M), (1, .int x_56), (2, .int x_57), (3, .int x_58), (4, .int x_59), (6, .int x_61)]) E.1 E.2.1 dX12_goesBy_218 hl67 (by decide) rfl (fun ls hl107 => ?_)
    exact join_4 x_56 x_58 x_59 r_100 gnow_102 g_63 g_64 g_65 _ _ _ ⟨hj_65_0, hj_65_1, hj_65_2, hj_65_3, (by show 0 ≤ (gnow_102 2).toInt; omega), (by show (gnow_102 2).toInt ≤ 150; omega), (by show 0 ≤ (gnow_102 3).toInt; omega), (by show (gnow_102 3).toInt + 1 ≤ (mi 6).toInt; omega), (by show 0 ≤ (gnow_102 5).toInt; omega), (by show (gnow_102 5).toInt ≤ 200; omega)⟩ hw103 (lv_sub hl107 [1, 2, 4, 5, 0] rfl)
  have join_108 : ∀ (x_109 : Int32) (x_110 : Int32) (x_111 : Int32) (x_112 : Int32) (g_113 : Nat → Int32) (g_114 : Nat → Int32) (g_115 : Nat → Int32) (g_116 : Nat → Int32) (H : Heap) (locs : List Loc) (ls : Array Slot), (0 ≤ x_109.toInt) ∧ (x_109.toInt + 1 ≤ (mi 6).toInt) ∧ (0 ≤ x_111.toInt) ∧ (x_111.toInt ≤ 1) ∧ (0 ≤ (g_113 2).toInt) ∧ ((g_113 2).toInt ≤ 150) ∧ (0 ≤ (g_113 3).toInt) ∧ ((g_113 3).toInt + 1 ≤ (mi 6).toInt) ∧ (0 ≤ (g_113 5).toInt) ∧ ((g_113 5).toInt ≤ 200) → WD D A s.heap (MW cI cJ M mr mi (va_up (va_up (va_up (va_up mf 1 g_113) 53 g_115) 54 g_116) 55 g_114) mg) H locs → lv_has ls 7 [(0, .ref M), (1, .int x_109), (2, .int x_110), (3, .int x_111), (4, .int x_112)] → W p l e ({ frames := 7, cells := 0, slots := 0, locals := 175 } : Room) s m ([.ref M] : List Value).toArray below meth c H locs 0 0 (MQ below (va_Qi (fun (r : Int32) (u : (Nat → Int32) × (Nat → Int32) × (Nat → Int32) × (Nat → Int32) × (Nat → Int32)) => (0 ≤ r.toInt) ∧ (r.toInt ≤ 1) ∧ (0 ≤ (u.1 2).toInt) ∧ ((u.1 2).toInt ≤ 150) ∧ (0 ≤ (u.1 5).toInt) ∧ ((u.1 5).toInt ≤ 200) ∧ (0 ≤ (u.1 3).toInt) ∧ ((u.1 3).toInt + 1 ≤ (mi 6).toInt)) (fun u => QW D cI cJ A ((fun (u : (Nat → Int32) × (Nat → Int32) × (Nat → Int32) × (Nat → Int32) × (Nat → Int32)) => (MW cI cJ M mr mi (va_up (va_up (va_up (va_up (va_up mf 1 u.1) 55 u.2.1) 53 u.2.2.1) 54 u.2.2.2.1) 16 u.2.2.2.2) mg)) u)) A) ([.ref M] : List Value).toArray s 0 0 A) (F0 m 112 ls []) := by
    intro x_109 x_110 x_111 x_112 g_113 g_114 g_115 g_116 H locs ls hinv hw117 hl118
    obtain ⟨hj_116_0, hj_116_1, hj_116_2, hj_116_3, hj_116_4, hj_116_5, hj_116_6, hj_116_7, hj_116_8, hj_116_9⟩ := hinv
    refine lv_iconst (pc := 112) (v := 0) E.1 E.2.1 dX12_goesBy_112 (by decide +kernel) ?_
    refine lv_istore (pc := 113) (lv' := [(5, .int 0), (0, .ref M), (1, .int x_109), (2, .int x_110), (3, .int x_111), (4, .int x_112)]) E.1 E.2.1 dX12_goesBy_113 hl118 (by decide) rfl (fun ls hl119 => ?_)
    refine lv_iload_n (pc := 115) E.1 E.2.1 dX12_goesBy_115 rfl (lv_at hl119 4 rfl) ?_
    refine lv_if_eq (pc := 116) (tgt := 220) E.1 E.2.1 dX12_goesBy_116 (by decide) (fun c_120 => ?_) (fun c_120 => ?_)
    · skip
      have hc_120 := eqE (a := x_111.toInt) (b := 0) rfl (by decide +kernel) c_120
      exact join_4 x_109 x_111 x_112 0 g_113 g_114 g_115 g_116 _ _ _ ⟨hj_116_0, hj_116_1, hj_116_2, hj_116_3, hj_116_4, hj_116_5, hj_116_6, hj_116_7, hj_116_8, hj_116_9⟩ hw117 (lv_sub hl119 [1, 2, 4, 5, 0] rfl)
    · skip
      have hc_120 := neE (a := x_111.toInt) (b := 0) rfl (by decide +kernel) c_120
      refine lv_aload_n (pc := 119) E.1 E.2.1 dX12_goesBy_119 rfl (lv_at hl119 1 rfl) ?_
      refine x_get (pc := 120) (T := TX12) (N := 70) (ci := 12) (v := .ref (mr 1)) E hw117 inX12 0 1 q_1400 rfl rfl (by decide) rfl rfl dX12_goesBy_120 ?_
      refine lv_bipush (pc := 123) (v := 36) E.1 E.2.1 dX12_goesBy_123 (by decide +kernel) ?_
      refine lv_iload_n (pc := 125) E.1 E.2.1 dX12_goesBy_125 rfl (lv_at hl119 2 rfl) ?_
      refine lv_iadd (pc := 126) E.1 E.2.1 dX12_goesBy_126 ?_
      refine lv_topi (fun v_121 ev_121 => ?_)
      have hv_121 : v_121.toInt = 36 + x_109.toInt := by rw [ev_121]; exact addE (by decide +kernel) rfl (by omega)
      refine x_iald (pc := 127) (f := g_113) E hw117 1 rfl (inbE (a := v_121.toInt) rfl (by omega)) dX12_goesBy_127 ?_
      refine lv_topi (fun v_122 ev_122 => ?_)
      refine lv_if_le (pc := 128) (tgt := 144) E.1 E.2.1 dX12_goesBy_128 (by decide) (fun c_123 => ?_) (fun c_123 => ?_)
      · skip
        have hc_123 := leE (a := v_122.toInt) (b := 0) rfl (by decide +kernel) c_123
        refine lv_iconst (pc := 144) (v := 0) E.1 E.2.1 dX12_goesBy_144 (by decide +kernel) ?_
        refine lv_istore (pc := 145) (lv' := [(6, .int 0), (5, .int 0), (0, .ref M), (1, .int x_109), (2, .int x_110), (3, .int x_111), (4, .int x_112)]) E.1 E.2.1 dX12_goesBy_145 hl119 (by decide) rfl (fun ls hl124 => ?_)
        exact join_55 x_109 x_110 x_111 x_112 0 0 g_113 g_114 g_115 g_116 _ _ _ ⟨hj_116_0, hj_116_1, hj_116_2, hj_116_3, hj_116_4, hj_116_5, hj_116_6, hj_116_7, hj_116_8, hj_116_9⟩ hw117 (lv_sub hl124 [2, 3, 4, 5, 6, 1, 0] rfl)
      · skip
        have hc_123 := nleE (a := v_122.toInt) (b := 0) rfl (by decide +kernel) c_123
        refine lv_aload_n (pc := 131) E.1 E.2.1 dX12_goesBy_131 rfl (lv_at hl119 1 rfl) ?_
        refine lv_iload_n (pc := 132) E.1 E.2.1 dX12_goesBy_132 rfl (lv_at hl119 2 rfl) ?_
        refine cm_i (pc := 133) hw117 (rn_M (As := [.int x_109]) (rest := []) E hw117 (s_sinceLast l D cI cJ _ M mr mi (va_up (va_up (va_up (va_up mf 1 g_113) 53 g_115) 54 g_116) 55 g_114) mg x_109 (by show 0 ≤ x_109.toInt ∧ x_109.toInt ≤ 9; omega)) (gdV q_1863 q_1865 q_98 q_162 q_1866) hdV_X12_sinceLast ⟨rfl, rfl⟩ ⟨(Nat.le_of_ble_eq_true rfl), (Nat.le_of_ble_eq_true rfl)⟩ ⟨(Nat.le_of_ble_eq_true rfl), (Nat.le_of_ble_eq_true rfl)⟩ 12 rfl rfl rfl rfl hl119.1 rfl (Nat.le_of_ble_eq_true rfl) dX12_goesBy_133) (fun r_126 u_125 H1 locs hp hw127 => ?_)
        generalize H1 = H at hw127 ⊢
        have hw128 : WD D A s.heap (MW cI cJ M mr mi (va_up (va_up (va_up (va_up mf 1 g_113) 53 g_115) 54 g_116) 55 g_114) mg) H locs := hw127
        refine lv_iconst (pc := 136) (v := 1) E.1 E.2.1 dX12_goesBy_136 (by decide +kernel) ?_
        refine lv_icmp_ne (pc := 137) (tgt := 144) E.1 E.2.1 dX12_goesBy_137 (by decide) (fun c_129 => ?_) (fun c_129 => ?_)
        · skip
          have hc_129 := neE (a := r_126.toInt) (b := 1) rfl (by decide +kernel) c_129
          refine lv_iconst (pc := 144) (v := 0) E.1 E.2.1 dX12_goesBy_144 (by decide +kernel) ?_
          refine lv_istore (pc := 145) (lv' := [(6, .int 0), (5, .int 0), (0, .ref M), (1, .int x_109), (2, .int x_110), (3, .int x_111), (4, .int x_112)]) E.1 E.2.1 dX12_goesBy_145 hl119 (by decide) rfl (fun ls hl130 => ?_)
          exact join_55 x_109 x_110 x_111 x_112 0 0 g_113 g_114 g_115 g_116 _ _ _ ⟨hj_116_0, hj_116_1, hj_116_2, hj_116_3, hj_116_4, hj_116_5, hj_116_6, hj_116_7, hj_116_8, hj_116_9⟩ hw128 (lv_sub hl130 [2, 3, 4, 5, 6, 1, 0] rfl)
        · skip
          have hc_129 := eqE (a := r_126.toInt) (b := 1) rfl (by decide +kernel) c_129
          refine lv_iconst (pc := 140) (v := 1) E.1 E.2.1 dX12_goesBy_140 (by decide +kernel) ?_
          refine lv_goto (pc := 141) (tgt := 145) E.1 E.2.1 dX12_goesBy_141 (by decide) ?_
          refine lv_istore (pc := 145) (lv' := [(6, .int 1), (5, .int 0), (0, .ref M), (1, .int x_109), (2, .int x_110), (3, .int x_111), (4, .int x_112)]) E.1 E.2.1 dX12_goesBy_145 hl119 (by decide) rfl (fun ls hl131 => ?_)
          exact join_55 x_109 x_110 x_111 x_112 0 1 g_113 g_114 g_115 g_116 _ _ _ ⟨hj_116_0, hj_116_1, hj_116_2, hj_116_3, hj_116_4, hj_116_5, hj_116_6, hj_116_7, hj_116_8, hj_116_9⟩ hw128 (lv_sub hl131 [2, 3, 4, 5, 6, 1, 0] rfl)
  have join_132 : ∀ (g_133 : Nat → Int32) (g_134 : Nat → Int32) (g_135 : Nat → Int32) (g_136 : Nat → Int32) (H : Heap) (locs : List Loc) (ls : Array Slot), (0 ≤ (g_133 2).toInt) ∧ ((g_133 2).toInt ≤ 150) ∧ (0 ≤ (g_133 3).toInt) ∧ ((g_133 3).toInt + 1 ≤ (mi 6).toInt) ∧ (0 ≤ (g_133 5).toInt) ∧ ((g_133 5).toInt ≤ 200) → WD D A s.heap (MW cI cJ M mr mi (va_up (va_up (va_up (va_up mf 1 g_133) 53 g_135) 54 g_136) 55 g_134) mg) H locs → lv_has ls 7 [(0, .ref M)] → W p l e ({ frames := 7, cells := 0, slots := 0, locals := 175 } : Room) s m ([.ref M] : List Value).toArray below meth c H locs 0 0 (MQ below (va_Qi (fun (r : Int32) (u : (Nat → Int32) × (Nat → Int32) × (Nat → Int32) × (Nat → Int32) × (Nat → Int32)) => (0 ≤ r.toInt) ∧ (r.toInt ≤ 1) ∧ (0 ≤ (u.1 2).toInt) ∧ ((u.1 2).toInt ≤ 150) ∧ (0 ≤ (u.1 5).toInt) ∧ ((u.1 5).toInt ≤ 200) ∧ (0 ≤ (u.1 3).toInt) ∧ ((u.1 3).toInt + 1 ≤ (mi 6).toInt)) (fun u => QW D cI cJ A ((fun (u : (Nat → Int32) × (Nat → Int32) × (Nat → Int32) × (Nat → Int32) × (Nat → Int32)) => (MW cI cJ M mr mi (va_up (va_up (va_up (va_up (va_up mf 1 u.1) 55 u.2.1) 53 u.2.2.1) 54 u.2.2.2.1) 16 u.2.2.2.2) mg)) u)) A) ([.ref M] : List Value).toArray s 0 0 A) (F0 m 40 ls []) := by
    intro g_133 g_134 g_135 g_136 H locs ls hinv hw137 hl138
    obtain ⟨hj_136_0, hj_136_1, hj_136_2, hj_136_3, hj_136_4, hj_136_5⟩ := hinv
    refine lv_aload_n (pc := 40) E.1 E.2.1 dX12_goesBy_40 rfl (lv_at hl138 0 rfl) ?_
    refine x_get (pc := 41) (T := TX12) (N := 70) (ci := 12) (v := .ref (mr 1)) E hw137 inX12 0 1 q_1400 rfl rfl (by decide) rfl rfl dX12_goesBy_41 ?_
    refine lv_iconst (pc := 44) (v := 3) E.1 E.2.1 dX12_goesBy_44 (by decide +kernel) ?_
    refine x_iald (pc := 45) (f := g_133) E hw137 1 rfl (inbE (a := 3) (by decide +kernel) (by omega)) dX12_goesBy_45 ?_
    refine lv_topi (fun v_139 ev_139 => ?_)
    have hv_139 : v_139.toInt = (g_133 3).toInt := by rw [ev_139]; rfl
    refine lv_istore_n (pc := 46) (lv' := [(1, .int v_139), (0, .ref M)]) E.1 E.2.1 dX12_goesBy_46 rfl hl138 (by decide) rfl (fun ls hl140 => ?_)
    refine lv_aload_n (pc := 47) E.1 E.2.1 dX12_goesBy_47 rfl (lv_at hl140 1 rfl) ?_
    refine lv_iload_n (pc := 48) E.1 E.2.1 dX12_goesBy_48 rfl (lv_at hl140 0 rfl) ?_
    refine cm_i (pc := 49) hw137 (rn_M (As := [.int v_139]) (rest := []) E hw137 (s_burnOf l D cI cJ _ M mr mi (va_up (va_up (va_up (va_up mf 1 g_133) 53 g_135) 54 g_136) 55 g_134) mg v_139 (by show 0 ≤ v_139.toInt ∧ v_139.toInt ≤ 9; omega) h5 h7 h8 h9 h10 (show LW 16 400 (mf 31) (mf 32) (mf 28) (mf 29) (mf 30) ((mf 27) 1).toInt 400 from lf_law1)) (gdV q_1891 q_1893 q_105 q_162 q_1894) hdV_X12_burnOf ⟨rfl, rfl⟩ ⟨(Nat.le_of_ble_eq_true rfl), (Nat.le_of_ble_eq_true rfl)⟩ ⟨(Nat.le_of_ble_eq_true rfl), (Nat.le_of_ble_eq_true rfl)⟩ 12 rfl rfl rfl rfl hl140.1 rfl (Nat.le_of_ble_eq_true rfl) dX12_goesBy_49) (fun r_142 u_141 H1 locs hp hw143 => ?_)
    obtain ⟨gasked_144, gstack_145⟩ := u_141
    generalize H1 = H at hw143 ⊢
    have hw146 : WD D A s.heap (MW cI cJ M mr mi (va_up (va_up (va_up (va_up mf 1 g_133) 53 gasked_144) 54 gstack_145) 55 g_134) mg) H locs := hw143
    obtain ⟨hp_147, hp_148⟩ := hp
    have hp_147 : 0 ≤ r_142.toInt := hp_147
    have hp_148 : r_142.toInt ≤ 99 := hp_148
    refine lv_istore_n (pc := 52) (lv' := [(2, .int r_142), (1, .int v_139), (0, .ref M)]) E.1 E.2.1 dX12_goesBy_52 rfl hl140 (by decide) rfl (fun ls hl149 => ?_)
    refine lv_aload_n (pc := 53) E.1 E.2.1 dX12_goesBy_53 rfl (lv_at hl149 2 rfl) ?_
    refine x_get (pc := 54) (T := TX12) (N := 70) (ci := 12) (v := .ref (mr 1)) E hw146 inX12 0 1 q_1400 rfl rfl (by decide) rfl rfl dX12_goesBy_54 ?_
    refine lv_bipush (pc := 57) (v := 6) E.1 E.2.1 dX12_goesBy_57 (by decide +kernel) ?_
    refine lv_iload_n (pc := 59) E.1 E.2.1 dX12_goesBy_59 rfl (lv_at hl149 1 rfl) ?_
    refine lv_iadd (pc := 60) E.1 E.2.1 dX12_goesBy_60 ?_
    refine lv_topi (fun v_150 ev_150 => ?_)
    have hv_150 : v_150.toInt = 6 + v_139.toInt := by rw [ev_150]; exact addE (by decide +kernel) rfl (by omega)
    refine x_iald (pc := 61) (f := g_133) E hw146 1 rfl (inbE (a := v_150.toInt) rfl (by omega)) dX12_goesBy_61 ?_
    refine lv_topi (fun v_151 ev_151 => ?_)
    refine lv_iload_n (pc := 62) E.1 E.2.1 dX12_goesBy_62 rfl (lv_at hl149 0 rfl) ?_
    refine lv_icmp_lt (pc := 63) (tgt := 70) E.1 E.2.1 dX12_goesBy_63 (by decide) (fun c_152 => ?_) (fun c_152 => ?_)
    · skip
      have hc_152 := ltE (a := v_151.toInt) (b := r_142.toInt) rfl rfl c_152
      refine lv_iconst (pc := 70) (v := 0) E.1 E.2.1 dX12_goesBy_70 (by decide +kernel) ?_
      refine lv_istore_n (pc := 71) (lv' := [(3, .int 0), (2, .int r_142), (1, .int v_139), (0, .ref M)]) E.1 E.2.1 dX12_goesBy_71 rfl hl149 (by decide) rfl (fun ls hl153 => ?_)
      refine lv_iload_n (pc := 72) E.1 E.2.1 dX12_goesBy_72 rfl (lv_at hl153 0 rfl) ?_
      refine lv_if_eq (pc := 73) (tgt := 80) E.1 E.2.1 dX12_goesBy_73 (by decide) (fun _ => ?_) (fun c_154 => absurd (meqE (a := 0) (b := 0) (by decide +kernel) (by decide +kernel) (by omega)) c_154)
      refine lv_aload_n (pc := 80) E.1 E.2.1 dX12_goesBy_80 rfl (lv_at hl153 3 rfl) ?_
      refine x_get (pc := 81) (T := TX12) (N := 70) (ci := 12) (v := .ref (mr 1)) E hw146 inX12 0 1 q_1400 rfl rfl (by decide) rfl rfl dX12_goesBy_81 ?_
      refine lv_bipush (pc := 84) (v := 6) E.1 E.2.1 dX12_goesBy_84 (by decide +kernel) ?_
      refine lv_iload_n (pc := 86) E.1 E.2.1 dX12_goesBy_86 rfl (lv_at hl153 2 rfl) ?_
      refine lv_iadd (pc := 87) E.1 E.2.1 dX12_goesBy_87 ?_
      refine lv_topi (fun v_155 ev_155 => ?_)
      have hv_155 : v_155.toInt = 6 + v_139.toInt := by rw [ev_155]; exact addE (by decide +kernel) rfl (by omega)
      refine x_iald (pc := 88) (f := g_133) E hw146 1 rfl (inbE (a := v_155.toInt) rfl (by omega)) dX12_goesBy_88 ?_
      refine lv_topi (fun v_156 ev_156 => ?_)
      refine lv_istore (pc := 89) (lv' := [(4, .int v_156), (3, .int 0), (2, .int r_142), (1, .int v_139), (0, .ref M)]) E.1 E.2.1 dX12_goesBy_89 hl153 (by decide) rfl (fun ls hl157 => ?_)
      refine lv_aload_n (pc := 91) E.1 E.2.1 dX12_goesBy_91 rfl (lv_at hl157 4 rfl) ?_
      refine x_get (pc := 92) (T := TX12) (N := 70) (ci := 12) (v := .ref (mr 1)) E hw146 inX12 0 1 q_1400 rfl rfl (by decide) rfl rfl dX12_goesBy_92 ?_
      refine lv_bipush (pc := 95) (v := 6) E.1 E.2.1 dX12_goesBy_95 (by decide +kernel) ?_
      refine lv_iload_n (pc := 97) E.1 E.2.1 dX12_goesBy_97 rfl (lv_at hl157 3 rfl) ?_
      refine lv_iadd (pc := 98) E.1 E.2.1 dX12_goesBy_98 ?_
      refine lv_topi (fun v_158 ev_158 => ?_)
      have hv_158 : v_158.toInt = 6 + v_139.toInt := by rw [ev_158]; exact addE (by decide +kernel) rfl (by omega)
      refine lv_aload_n (pc := 99) E.1 E.2.1 dX12_goesBy_99 rfl (lv_at hl157 4 rfl) ?_
      refine x_get (pc := 100) (T := TX12) (N := 70) (ci := 12) (v := .ref (mr 1)) E hw146 inX12 0 1 q_1400 rfl rfl (by decide) rfl rfl dX12_goesBy_100 ?_
      refine lv_bipush (pc := 103) (v := 6) E.1 E.2.1 dX12_goesBy_103 (by decide +kernel) ?_
      refine lv_iload_n (pc := 105) E.1 E.2.1 dX12_goesBy_105 rfl (lv_at hl157 3 rfl) ?_
      refine lv_iadd (pc := 106) E.1 E.2.1 dX12_goesBy_106 ?_
      refine lv_topi (fun v_159 ev_159 => ?_)
      have hv_159 : v_159.toInt = 6 + v_139.toInt := by rw [ev_159]; exact addE (by decide +kernel) rfl (by omega)
      refine x_iald (pc := 107) (f := g_133) E hw146 1 rfl (inbE (a := v_159.toInt) rfl (by omega)) dX12_goesBy_107 ?_
      refine lv_topi (fun v_160 ev_160 => ?_)
      refine lv_iload (pc := 108) E.1 E.2.1 dX12_goesBy_108 (lv_at hl157 0 rfl) ?_
      refine lv_isub (pc := 110) E.1 E.2.1 dX12_goesBy_110 ?_
      refine lv_topi (fun v_161 ev_161 => ?_)
      refine x_iastG (pc := 111) (f := g_133) (wf := fun g => (MW cI cJ M mr mi (va_up (va_up (va_up (va_up mf 1 g) 53 gasked_144) 54 gstack_145) 55 g_134) mg)) E hw146 1 rfl (inbE (a := v_158.toInt) rfl (by omega)) (fun _ => rfl) dX12_goesBy_111 (fun g_162 H locs eg_162 hw163 => ?_)
      have ht_164 : (g_162 2).toInt = (g_133 2).toInt := by rw [eg_162, pk_un (by have q9 := idxI (x := v_158) (by omega); omega)]
      have ht_165 : (g_162 3).toInt = (g_133 3).toInt := by rw [eg_162, pk_un (by have q9 := idxI (x := v_158) (by omega); omega)]
      have ht_166 : (g_162 5).toInt = (g_133 5).toInt := by rw [eg_162, pk_un (by have q9 := idxI (x := v_158) (by omega); omega)]
      exact join_108 v_139 r_142 0 v_156 g_162 g_134 gasked_144 gstack_145 _ _ _ ⟨(by show 0 ≤ v_139.toInt; omega), (by show v_139.toInt + 1 ≤ (mi 6).toInt; omega), (by show 0 ≤ (0 : Int32).toInt; have k_0 : (0 : Int32).toInt = 0 := (by decide +kernel); omega), (by show (0 : Int32).toInt ≤ 1; have k_0 : (0 : Int32).toInt = 0 := (by decide +kernel); omega), (by show 0 ≤ (g_162 2).toInt; omega), (by show (g_162 2).toInt ≤ 150; omega), (by show 0 ≤ (g_162 3).toInt; omega), (by show (g_162 3).toInt + 1 ≤ (mi 6).toInt; omega), (by show 0 ≤ (g_162 5).toInt; omega), (by show (g_162 5).toInt ≤ 200; omega)⟩ hw163 (lv_sub hl157 [4, 3, 2, 1, 0] rfl)
    · skip
      have hc_152 := nltE (a := v_151.toInt) (b := r_142.toInt) rfl rfl c_152
      refine lv_iconst (pc := 66) (v := 1) E.1 E.2.1 dX12_goesBy_66 (by decide +kernel) ?_
      refine lv_goto (pc := 67) (tgt := 71) E.1 E.2.1 dX12_goesBy_67 (by decide) ?_
      refine lv_istore_n (pc := 71) (lv' := [(3, .int 1), (2, .int r_142), (1, .int v_139), (0, .ref M)]) E.1 E.2.1 dX12_goesBy_71 rfl hl149 (by decide) rfl (fun ls hl167 => ?_)
      refine lv_iload_n (pc := 72) E.1 E.2.1 dX12_goesBy_72 rfl (lv_at hl167 0 rfl) ?_
      refine lv_if_eq (pc := 73) (tgt := 80) E.1 E.2.1 dX12_goesBy_73 (by decide) (fun c_168 => absurd c_168 (mneE (a := 1) (b := 0) (by decide +kernel) (by decide +kernel) (by omega))) (fun _ => ?_)
      refine lv_iload_n (pc := 76) E.1 E.2.1 dX12_goesBy_76 rfl (lv_at hl167 1 rfl) ?_
      refine lv_goto (pc := 77) (tgt := 89) E.1 E.2.1 dX12_goesBy_77 (by decide) ?_
      refine lv_istore (pc := 89) (lv' := [(4, .int r_142), (3, .int 1), (2, .int r_142), (1, .int v_139), (0, .ref M)]) E.1 E.2.1 dX12_goesBy_89 hl167 (by decide) rfl (fun ls hl169 => ?_)
      refine lv_aload_n (pc := 91) E.1 E.2.1 dX12_goesBy_91 rfl (lv_at hl169 4 rfl) ?_
      refine x_get (pc := 92) (T := TX12) (N := 70) (ci := 12) (v := .ref (mr 1)) E hw146 inX12 0 1 q_1400 rfl rfl (by decide) rfl rfl dX12_goesBy_92 ?_
      refine lv_bipush (pc := 95) (v := 6) E.1 E.2.1 dX12_goesBy_95 (by decide +kernel) ?_
      refine lv_iload_n (pc := 97) E.1 E.2.1 dX12_goesBy_97 rfl (lv_at hl169 3 rfl) ?_
      refine lv_iadd (pc := 98) E.1 E.2.1 dX12_goesBy_98 ?_
      refine lv_topi (fun v_170 ev_170 => ?_)
      have hv_170 : v_170.toInt = 6 + v_139.toInt := by rw [ev_170]; exact addE (by decide +kernel) rfl (by omega)
      refine lv_aload_n (pc := 99) E.1 E.2.1 dX12_goesBy_99 rfl (lv_at hl169 4 rfl) ?_
      refine x_get (pc := 100) (T := TX12) (N := 70) (ci := 12) (v := .ref (mr 1)) E hw146 inX12 0 1 q_1400 rfl rfl (by decide) rfl rfl dX12_goesBy_100 ?_
      refine lv_bipush (pc := 103) (v := 6) E.1 E.2.1 dX12_goesBy_103 (by decide +kernel) ?_
      refine lv_iload_n (pc := 105) E.1 E.2.1 dX12_goesBy_105 rfl (lv_at hl169 3 rfl) ?_
      refine lv_iadd (pc := 106) E.1 E.2.1 dX12_goesBy_106 ?_
      refine lv_topi (fun v_171 ev_171 => ?_)
      have hv_171 : v_171.toInt = 6 + v_139.toInt := by rw [ev_171]; exact addE (by decide +kernel) rfl (by omega)
      refine x_iald (pc := 107) (f := g_133) E hw146 1 rfl (inbE (a := v_171.toInt) rfl (by omega)) dX12_goesBy_107 ?_
      refine lv_topi (fun v_172 ev_172 => ?_)
      refine lv_iload (pc := 108) E.1 E.2.1 dX12_goesBy_108 (lv_at hl169 0 rfl) ?_
      refine lv_isub (pc := 110) E.1 E.2.1 dX12_goesBy_110 ?_
      refine lv_topi (fun v_173 ev_173 => ?_)
      refine x_iastG (pc := 111) (f := g_133) (wf := fun g => (MW cI cJ M mr mi (va_up (va_up (va_up (va_up mf 1 g) 53 gasked_144) 54 gstack_145) 55 g_134) mg)) E hw146 1 rfl (inbE (a := v_170.toInt) rfl (by omega)) (fun _ => rfl) dX12_goesBy_111 (fun g_174 H locs eg_174 hw175 => ?_)
      have ht_176 : (g_174 2).toInt = (g_133 2).toInt := by rw [eg_174, pk_un (by have q9 := idxI (x := v_170) (by omega); omega)]
      have ht_177 : (g_174 3).toInt = (g_133 3).toInt := by rw [eg_174, pk_un (by have q9 := idxI (x := v_170) (by omega); omega)]
      have ht_178 : (g_174 5).toInt = (g_133 5).toInt := by rw [eg_174, pk_un (by have q9 := idxI (x := v_170) (by omega); omega)]
      exact join_108 v_139 r_142 1 r_142 g_174 g_134 gasked_144 gstack_145 _ _ _ ⟨(by show 0 ≤ v_139.toInt; omega), (by show v_139.toInt + 1 ≤ (mi 6).toInt; omega), (by show 0 ≤ (1 : Int32).toInt; have k_0 : (1 : Int32).toInt = 1 := (by decide +kernel); omega), (by show (1 : Int32).toInt ≤ 1; have k_0 : (1 : Int32).toInt = 1 := (by decide +kernel); omega), (by show 0 ≤ (g_174 2).toInt; omega), (by show (g_174 2).toInt ≤ 150; omega), (by show 0 ≤ (g_174 3).toInt; omega), (by show (g_174 3).toInt + 1 ≤ (mi 6).toInt; omega), (by show 0 ≤ (g_174 5).toInt; omega), (by show (g_174 5).toInt ≤ 200; omega)⟩ hw175 (lv_sub hl169 [4, 3, 2, 1, 0] rfl)
  refine lv_aload_n (pc := 0) E.1 E.2.1 dX12_goesBy_0 rfl (lv_at hl3 0 rfl) ?_
  refine lv_aload_n (pc := 1) E.1 E.2.1 dX12_goesBy_1 rfl (lv_at hl3 0 rfl) ?_
  refine x_get (pc := 2) (T := TX12) (N := 70) (ci := 12) (v := .ref (mr 1)) E hw1 inX12 0 1 q_1400 rfl rfl (by decide) rfl rfl dX12_goesBy_2 ?_
  refine lv_iconst (pc := 5) (v := 4) E.1 E.2.1 dX12_goesBy_5 (by decide +kernel) ?_
  refine x_iald (pc := 6) (f := (mf 1)) E hw1 1 rfl (inbE (a := 4) (by decide +kernel) (by omega)) dX12_goesBy_6 ?_
  refine lv_topi (fun v_179 ev_179 => ?_)
  refine cm_v (pc := 7) hw1 (rn_M (As := [.int v_179]) (rest := []) E hw1 (s_findsFar l D cI cJ _ M mr mi mf mg v_179 (by show 0 ≤ (mi 6).toInt ∧ (mi 6).toInt ≤ 10; omega) h6 a_paths) (gdV q_1822 q_1824 q_89 q_162 q_1825) hdV_X12_findsFar ⟨rfl, rfl⟩ ⟨(Nat.le_of_ble_eq_true rfl), (Nat.le_of_ble_eq_true rfl)⟩ ⟨(Nat.le_of_ble_eq_true rfl), (Nat.le_of_ble_eq_true rfl)⟩ 12 rfl rfl rfl rfl hl3.1 rfl (Nat.le_of_ble_eq_true rfl) dX12_goesBy_7) (fun u_180 H1 locs hp hw182 => ?_)
  obtain ⟨gfarOf_183, rfl⟩ : ∃ z, z = u_180 := ⟨_, rfl⟩
  generalize H1 = H at hw182 ⊢
  have hw184 : WD D A s.heap (MW cI cJ M mr mi (va_up mf 55 gfarOf_183) mg) H locs := hw182
  refine lv_aload_n (pc := 10) E.1 E.2.1 dX12_goesBy_10 rfl (lv_at hl3 0 rfl) ?_
  refine x_get (pc := 11) (T := TX12) (N := 70) (ci := 12) (v := .ref (mr 1)) E hw184 inX12 0 1 q_1400 rfl rfl (by decide) rfl rfl dX12_goesBy_11 ?_
  refine lv_iconst (pc := 14) (v := 3) E.1 E.2.1 dX12_goesBy_14 (by decide +kernel) ?_
  refine lv_aload_n (pc := 15) E.1 E.2.1 dX12_goesBy_15 rfl (lv_at hl3 0 rfl) ?_
  refine x_get (pc := 16) (T := TX12) (N := 70) (ci := 12) (v := .ref (mr 1)) E hw184 inX12 0 1 q_1400 rfl rfl (by decide) rfl rfl dX12_goesBy_16 ?_
  refine lv_iconst (pc := 19) (v := 5) E.1 E.2.1 dX12_goesBy_19 (by decide +kernel) ?_
  refine x_iald (pc := 20) (f := (mf 1)) E hw184 1 rfl (inbE (a := 5) (by decide +kernel) (by omega)) dX12_goesBy_20 ?_
  refine lv_topi (fun v_185 ev_185 => ?_)
  have hv_185 : v_185.toInt = ((mf 1) 5).toInt := by rw [ev_185]; rfl
  refine lv_aload_n (pc := 21) E.1 E.2.1 dX12_goesBy_21 rfl (lv_at hl3 0 rfl) ?_
  refine x_get (pc := 22) (T := TX12) (N := 70) (ci := 12) (v := .int (mi 49)) E hw184 inX12 0 49 q_1448 rfl rfl (by decide) rfl rfl dX12_goesBy_22 ?_
  refine lv_icmp_ge (pc := 25) (tgt := 35) E.1 E.2.1 dX12_goesBy_25 (by decide) (fun c_186 => ?_) (fun c_186 => ?_)
  · skip
    have hc_186 := leE (a := (mi 49).toInt) (b := v_185.toInt) rfl rfl c_186
    refine lv_aload_n (pc := 35) E.1 E.2.1 dX12_goesBy_35 rfl (lv_at hl3 0 rfl) ?_
    refine cm_i (pc := 36) hw184 (rn_M (As := []) (rest := [.int 3, .ref (mr 1)]) E hw184 (s_nextByLaw l D cI cJ _ M mr mi (va_up mf 55 gfarOf_183) mg h0 h1 h2 h5 h7 h8 h9 h10 (show LW 0 0 (mf 31) (mf 32) (mf 28) (mf 29) (mf 30) ((mf 27) 0).toInt 400 from lf_law0)) (gdV q_1851 q_1853 q_95 q_162 q_1854) hdV_X12_nextByLaw ⟨rfl, rfl⟩ ⟨(Nat.le_of_ble_eq_true rfl), (Nat.le_of_ble_eq_true rfl)⟩ ⟨(Nat.le_of_ble_eq_true rfl), (Nat.le_of_ble_eq_true rfl)⟩ 12 rfl rfl rfl rfl hl3.1 rfl (Nat.le_of_ble_eq_true rfl) dX12_goesBy_36) (fun r_188 u_187 H1 locs hp hw189 => ?_)
    obtain ⟨gasked_190, gstack_191⟩ := u_187
    generalize H1 = H at hw189 ⊢
    have hw192 : WD D A s.heap (MW cI cJ M mr mi (va_up (va_up (va_up mf 53 gasked_190) 54 gstack_191) 55 gfarOf_183) mg) H locs := hw189
    obtain ⟨hp_193, hp_194⟩ := hp
    have hp_193 : 0 ≤ r_188.toInt := hp_193
    have hp_194 : r_188.toInt + 1 ≤ (mi 6).toInt := hp_194
    refine x_iastG (pc := 39) (f := (mf 1)) (wf := fun g => (MW cI cJ M mr mi (va_up (va_up (va_up (va_up mf 1 g) 53 gasked_190) 54 gstack_191) 55 gfarOf_183) mg)) E hw192 1 rfl (inbE (a := 3) (by decide +kernel) (by omega)) (fun _ => rfl) dX12_goesBy_39 (fun g_195 H locs eg_195 hw196 => ?_)
    have ht_197 : (g_195 2).toInt = ((mf 1) 2).toInt := by rw [eg_195]; rfl
    have ht_198 : (g_195 3).toInt = (r_188 : Int32).toInt := by rw [eg_195]; rfl
    have ht_199 : (g_195 5).toInt = ((mf 1) 5).toInt := by rw [eg_195]; rfl
    exact join_132 g_195 gfarOf_183 gasked_190 gstack_191 _ _ _ ⟨(by show 0 ≤ (g_195 2).toInt; omega), (by show (g_195 2).toInt ≤ 150; omega), (by show 0 ≤ (g_195 3).toInt; omega), (by show (g_195 3).toInt + 1 ≤ (mi 6).toInt; omega), (by show 0 ≤ (g_195 5).toInt; omega), (by show (g_195 5).toInt ≤ 200; omega)⟩ hw196 (lv_sub hl3 [0] rfl)
  · skip
    have hc_186 := nleE (a := (mi 49).toInt) (b := v_185.toInt) rfl rfl c_186
    refine lv_aload_n (pc := 28) E.1 E.2.1 dX12_goesBy_28 rfl (lv_at hl3 0 rfl) ?_
    refine cm_i (pc := 29) hw184 (rn_M (As := []) (rest := [.int 3, .ref (mr 1)]) E hw184 (s_nextByRound l D cI cJ _ M mr mi (va_up mf 55 gfarOf_183) mg h0 h1 h2 h4.1 (by show ((mf 1) 5).toInt + 1 ≤ (mi 49).toInt; omega) h11.2 (show rndOK (mi 49).toInt (mi 6).toInt (mf 50) from lf_round)) (gdV q_1839 q_1841 q_92 q_162 q_1842) hdV_X12_nextByRound ⟨rfl, rfl⟩ ⟨(Nat.le_of_ble_eq_true rfl), (Nat.le_of_ble_eq_true rfl)⟩ ⟨(Nat.le_of_ble_eq_true rfl), (Nat.le_of_ble_eq_true rfl)⟩ 12 rfl rfl rfl rfl hl3.1 rfl (Nat.le_of_ble_eq_true rfl) dX12_goesBy_29) (fun r_201 u_200 H1 locs hp hw202 => ?_)
    obtain ⟨gnow_203, rfl⟩ : ∃ z, z = u_200 := ⟨_, rfl⟩
    generalize H1 = H at hw202 ⊢
    have hw204 : WD D A s.heap (MW cI cJ M mr mi (va_up (va_up mf 1 gnow_203) 55 gfarOf_183) mg) H locs := hw202
    obtain ⟨hp_205, hp_206, hp_207, hp_208, hp_209⟩ := hp
    have hp_205 : 0 ≤ r_201.toInt := hp_205
    have hp_206 : r_201.toInt + 1 ≤ (mi 6).toInt := hp_206
    have hp_207 : (gnow_203 2).toInt = ((mf 1) 2).toInt := hp_207
    have hp_208 : (gnow_203 3).toInt = ((mf 1) 3).toInt := hp_208
    have hp_209 : (gnow_203 5).toInt = ((mf 1) 5).toInt + 1 := hp_209
    refine lv_goto (pc := 32) (tgt := 39) E.1 E.2.1 dX12_goesBy_32 (by decide) ?_
    refine x_iastG (pc := 39) (f := gnow_203) (wf := fun g => (MW cI cJ M mr mi (va_up (va_up mf 1 g) 55 gfarOf_183) mg)) E hw204 1 rfl (inbE (a := 3) (by decide +kernel) (by omega)) (fun _ => rfl) dX12_goesBy_39 (fun g_210 H locs eg_210 hw211 => ?_)
    have ht_212 : (g_210 2).toInt = (gnow_203 2).toInt := by rw [eg_210]; rfl
    have ht_213 : (g_210 3).toInt = (r_201 : Int32).toInt := by rw [eg_210]; rfl
    have ht_214 : (g_210 5).toInt = (gnow_203 5).toInt := by rw [eg_210]; rfl
    exact join_132 g_210 gfarOf_183 (mf 53) (mf 54) _ _ _ ⟨(by show 0 ≤ (g_210 2).toInt; omega), (by show (g_210 2).toInt ≤ 150; omega), (by show 0 ≤ (g_210 3).toInt; omega), (by show (g_210 3).toInt + 1 ≤ (mi 6).toInt; omega), (by show 0 ≤ (g_210 5).toInt; omega), (by show (g_210 5).toInt ≤ 200; omega)⟩ hw211 (lv_sub hl3 [0] rfl)

set_option maxHeartbeats 4000000 in
set_option maxRecDepth 100000 in
theorem s_nights (l : Launch) (D : va_G) (cI cJ : ClassId) (sz M : Nat) (mr : Nat → Nat) (mi : Nat → Int32) (mf : Nat → Nat → Int32) (mg : Nat → Nat → Int64) (z_n : Int32) (h0 : 0 ≤ (mi 6).toInt ∧ (mi 6).toInt ≤ 10) (h1 : 0 ≤ ((mf 1) 2).toInt ∧ ((mf 1) 2).toInt ≤ 150) (h2 : 0 ≤ ((mf 1) 3).toInt ∧ ((mf 1) 3).toInt ≤ 9) (h3 : 0 ≤ ((mf 1) 5).toInt ∧ ((mf 1) 5).toInt ≤ 200) (h4 : 0 ≤ (mi 44).toInt ∧ (mi 44).toInt ≤ 10) (h5 : 0 ≤ (mi 42).toInt ∧ (mi 42).toInt ≤ 40) (h6 : 0 ≤ ((mf 27) 0).toInt) (h7 : ((mf 27) 0).toInt ≤ 16) (h8 : 0 ≤ ((mf 27) 1).toInt) (h9 : ((mf 27) 1).toInt ≤ 16) (h10 : 0 ≤ (mi 49).toInt ∧ (mi 49).toInt ≤ 200) (h11 : (-29) ≤ (mi 15).toInt ∧ (mi 15).toInt ≤ 69) (h12 : 0 ≤ (mi 3).toInt ∧ (mi 3).toInt ≤ 6) (a_paths : pathsOK (mf 43)) (lf_law0 : LW 0 0 (mf 31) (mf 32) (mf 28) (mf 29) (mf 30) ((mf 27) 0).toInt 400) (lf_law1 : LW 16 400 (mf 31) (mf 32) (mf 28) (mf 29) (mf 30) ((mf 27) 1).toInt 400) (lf_round : rndOK (mi 49).toInt (mi 6).toInt (mf 50)) (lf_rows : rowsOK (mi 3).toInt (mi 6).toInt (mf 2)) (lf_lamp : (((mi 6).toInt = 0 ∧ ((mf 1) 3).toInt = 0) ∨ ((mf 1) 3).toInt < (mi 6).toInt)) : Met l yX12_nights (Cond.code yX12_nights cX12_nights 4 (some .int) :: GW) ({ frames := 8, cells := 0, slots := 0, locals := 201 } : Room) (va_Pc [.ref M, .int z_n] (PW D cI cJ sz (MW cI cJ M mr mi mf mg) xT)) (va_Qi (fun (r : Int32) (u : Int32 × (Nat → Int32) × (Nat → Int32) × Int32 × (Nat → Int32) × (Nat → Int32) × (Nat → Int32) × (Nat → Int32)) => (0 ≤ (u.2.1 2).toInt) ∧ ((u.2.1 2).toInt ≤ 150) ∧ (0 ≤ (u.2.1 5).toInt) ∧ ((u.2.1 5).toInt ≤ 200) ∧ (0 ≤ (u.2.1 3).toInt) ∧ ((u.2.1 3).toInt ≤ 9) ∧ (0 ≤ u.2.2.2.1.toInt) ∧ (u.2.2.2.1.toInt ≤ 6) ∧ (rowsOK u.2.2.2.1.toInt (mi 6).toInt u.2.2.1) ∧ ((((mi 6).toInt = 0 ∧ (u.2.1 3).toInt = 0) ∨ (u.2.1 3).toInt < (mi 6).toInt))) (fun u => QW D cI cJ (va_A (MW cI cJ M mr mi mf mg) sz) ((fun (u : Int32 × (Nat → Int32) × (Nat → Int32) × Int32 × (Nat → Int32) × (Nat → Int32) × (Nat → Int32) × (Nat → Int32)) => (MW cI cJ M mr (upd (upd mi 0 u.1) 3 u.2.2.2.1) (va_up (va_up (va_up (va_up (va_up (va_up mf 1 u.2.1) 2 u.2.2.1) 55 u.2.2.2.2.1) 53 u.2.2.2.2.2.1) 54 u.2.2.2.2.2.2.1) 16 u.2.2.2.2.2.2.2) mg)) u)) (va_A (MW cI cJ M mr mi mf mg) sz)) 0 0 (va_A (MW cI cJ M mr mi mf mg) sz) := by
  refine mk_met (y := yX12_nights) (bytes := cX12_nights) (maxL := 4) (avs := [.ref M, .int z_n]) (WS := (MW cI cJ M mr mi mf mg)) (Qf := fun A => va_Qi (fun (r : Int32) (u : Int32 × (Nat → Int32) × (Nat → Int32) × Int32 × (Nat → Int32) × (Nat → Int32) × (Nat → Int32) × (Nat → Int32)) => (0 ≤ (u.2.1 2).toInt) ∧ ((u.2.1 2).toInt ≤ 150) ∧ (0 ≤ (u.2.1 5).toInt) ∧ ((u.2.1 5).toInt ≤ 200) ∧ (0 ≤ (u.2.1 3).toInt) ∧ ((u.2.1 3).toInt ≤ 9) ∧ (0 ≤ u.2.2.2.1.toInt) ∧ (u.2.2.2.1.toInt ≤ 6) ∧ (rowsOK u.2.2.2.1.toInt (mi 6).toInt u.2.2.1) ∧ ((((mi 6).toInt = 0 ∧ (u.2.1 3).toInt = 0) ∨ (u.2.1 3).toInt < (mi 6).toInt))) (fun u => QW D cI cJ A ((fun (u : Int32 × (Nat → Int32) × (Nat → Int32) × Int32 × (Nat → Int32) × (Nat → Int32) × (Nat → Int32) × (Nat → Int32)) => (MW cI cJ M mr (upd (upd mi 0 u.1) 3 u.2.2.2.1) (va_up (va_up (va_up (va_up (va_up (va_up mf 1 u.2.1) 2 u.2.2.1) 55 u.2.2.2.2.1) 53 u.2.2.2.2.2.1) 54 u.2.2.2.2.2.2.1) 16 u.2.2.2.2.2.2.2) mg)) u)) A) (by decide) (Nat.le_of_ble_eq_true rfl) ?_
  intro p e s m below meth c A ls E hr hlk hnm hX hw1 hl2
  have hl3 : lv_has ls 4 [(0, .ref M), (1, .int z_n)] := hl2
  refine lv_aload_n (pc := 0) E.1 E.2.1 dX12_nights_0 rfl (lv_at hl3 0 rfl) ?_
  refine lv_iconst (pc := 1) (v := 0) E.1 E.2.1 dX12_nights_1 (by decide +kernel) ?_
  refine x_put (pc := 2) (T := TX12) (N := 70) (ci := 12) (ws' := (MW cI cJ M mr (upd mi 0 0) mf mg)) E hw1 inX12 tyX12_ok nmX12 0 0 q_1399 rfl rfl (by decide) rfl rfl rfl rfl (Nat.le_of_ble_eq_true rfl) rfl dX12_nights_2 (fun H locs hw4 => ?_)
  refine lv_aload_n (pc := 5) E.1 E.2.1 dX12_nights_5 rfl (lv_at hl3 0 rfl) ?_
  refine lv_iload_n (pc := 6) E.1 E.2.1 dX12_nights_6 rfl (lv_at hl3 1 rfl) ?_
  refine lv_iconst (pc := 7) (v := 1) E.1 E.2.1 dX12_nights_7 (by decide +kernel) ?_
  refine lv_bipush (pc := 8) (v := 60) E.1 E.2.1 dX12_nights_8 (by decide +kernel) ?_
  refine cm_i (pc := 10) hw4 (rn_M (As := [.int z_n, .int 1, .int 60]) (rest := []) E hw4 (s_isIn l D cI cJ _ M mr (upd mi 0 0) mf mg z_n 1 60) (gdV q_1622 q_1624 q_46 q_162 q_1625) hdV_X12_isIn ⟨rfl, rfl⟩ ⟨(Nat.le_of_ble_eq_true rfl), (Nat.le_of_ble_eq_true rfl)⟩ ⟨(Nat.le_of_ble_eq_true rfl), (Nat.le_of_ble_eq_true rfl)⟩ 12 rfl rfl rfl rfl hl3.1 rfl (Nat.le_of_ble_eq_true rfl) dX12_nights_10) (fun r_6 u_5 H1 locs hp hw7 => ?_)
  generalize H1 = H at hw7 ⊢
  have hw8 : WD D A s.heap (MW cI cJ M mr (upd mi 0 0) mf mg) H locs := hw7
  have hp_9 := hp
  rcases hp_9 with ⟨rfl, ha_10⟩ | ⟨rfl, ha_11⟩ | ⟨rfl, ha_12, ha_13⟩
  · skip
    have ha_10 : z_n.toInt < (1 : Int32).toInt := ha_10
    rw [show (1 : Int32).toInt = 1 from by decide +kernel] at ha_10
    refine lv_if_eq (pc := 13) (tgt := 37) E.1 E.2.1 dX12_nights_13 (by decide) (fun _ => ?_) (fun c_14 => absurd (meqE (a := 0) (b := 0) (by decide +kernel) (by decide +kernel) (by omega)) c_14)
    refine lv_iconst (pc := 37) (v := (-1)) E.1 E.2.1 dX12_nights_37 (by decide +kernel) ?_
    exact em_i (w1 := (fun (u : Int32 × (Nat → Int32) × (Nat → Int32) × Int32 × (Nat → Int32) × (Nat → Int32) × (Nat → Int32) × (Nat → Int32)) => (MW cI cJ M mr (upd (upd mi 0 u.1) 3 u.2.2.2.1) (va_up (va_up (va_up (va_up (va_up (va_up mf 1 u.2.1) 2 u.2.2.1) 55 u.2.2.2.2.1) 53 u.2.2.2.2.2.1) 54 u.2.2.2.2.2.2.1) 16 u.2.2.2.2.2.2.2) mg))) E hr hlk (0, (mf 1), (mf 2), (mi 3), (mf 55), (mf 53), (mf 54), (mf 16)) hw8 ⟨h1.1, h1.2, h3.1, h3.2, h2.1, h2.2, h12.1, h12.2, lf_rows, (show (((mi 6).toInt = 0 ∧ ((mf 1) 3).toInt = 0) ∨ ((mf 1) 3).toInt < (mi 6).toInt) from lf_lamp)⟩ (Nat.le_of_ble_eq_true rfl) (Nat.le_of_ble_eq_true rfl) dX12_nights_38
  · skip
    have ha_11 : (60 : Int32).toInt < z_n.toInt := ha_11
    rw [show (60 : Int32).toInt = 60 from by decide +kernel] at ha_11
    refine lv_if_eq (pc := 13) (tgt := 37) E.1 E.2.1 dX12_nights_13 (by decide) (fun _ => ?_) (fun c_15 => absurd (meqE (a := 0) (b := 0) (by decide +kernel) (by decide +kernel) (by omega)) c_15)
    refine lv_iconst (pc := 37) (v := (-1)) E.1 E.2.1 dX12_nights_37 (by decide +kernel) ?_
    exact em_i (w1 := (fun (u : Int32 × (Nat → Int32) × (Nat → Int32) × Int32 × (Nat → Int32) × (Nat → Int32) × (Nat → Int32) × (Nat → Int32)) => (MW cI cJ M mr (upd (upd mi 0 u.1) 3 u.2.2.2.1) (va_up (va_up (va_up (va_up (va_up (va_up mf 1 u.2.1) 2 u.2.2.1) 55 u.2.2.2.2.1) 53 u.2.2.2.2.2.1) 54 u.2.2.2.2.2.2.1) 16 u.2.2.2.2.2.2.2) mg))) E hr hlk (0, (mf 1), (mf 2), (mi 3), (mf 55), (mf 53), (mf 54), (mf 16)) hw8 ⟨h1.1, h1.2, h3.1, h3.2, h2.1, h2.2, h12.1, h12.2, lf_rows, (show (((mi 6).toInt = 0 ∧ ((mf 1) 3).toInt = 0) ∨ ((mf 1) 3).toInt < (mi 6).toInt) from lf_lamp)⟩ (Nat.le_of_ble_eq_true rfl) (Nat.le_of_ble_eq_true rfl) dX12_nights_38
  · skip
    have ha_12 : (1 : Int32).toInt ≤ z_n.toInt := ha_12
    rw [show (1 : Int32).toInt = 1 from by decide +kernel] at ha_12
    have ha_13 : z_n.toInt ≤ (60 : Int32).toInt := ha_13
    rw [show (60 : Int32).toInt = 60 from by decide +kernel] at ha_13
    refine lv_if_eq (pc := 13) (tgt := 37) E.1 E.2.1 dX12_nights_13 (by decide) (fun c_16 => absurd c_16 (mneE (a := 1) (b := 0) (by decide +kernel) (by decide +kernel) (by omega))) (fun _ => ?_)
    refine lv_aload_n (pc := 16) E.1 E.2.1 dX12_nights_16 rfl (lv_at hl3 0 rfl) ?_
    refine x_get (pc := 17) (T := TX12) (N := 70) (ci := 12) (v := .int (mi 6)) E hw8 inX12 0 6 q_1405 rfl rfl (by decide) rfl rfl dX12_nights_17 ?_
    refine lv_if_eq (pc := 20) (tgt := 37) E.1 E.2.1 dX12_nights_20 (by decide) (fun c_17 => ?_) (fun c_17 => ?_)
    · skip
      have hc_17 := eqE (a := (mi 6).toInt) (b := 0) rfl (by decide +kernel) c_17
      refine lv_iconst (pc := 37) (v := (-1)) E.1 E.2.1 dX12_nights_37 (by decide +kernel) ?_
      exact em_i (w1 := (fun (u : Int32 × (Nat → Int32) × (Nat → Int32) × Int32 × (Nat → Int32) × (Nat → Int32) × (Nat → Int32) × (Nat → Int32)) => (MW cI cJ M mr (upd (upd mi 0 u.1) 3 u.2.2.2.1) (va_up (va_up (va_up (va_up (va_up (va_up mf 1 u.2.1) 2 u.2.2.1) 55 u.2.2.2.2.1) 53 u.2.2.2.2.2.1) 54 u.2.2.2.2.2.2.1) 16 u.2.2.2.2.2.2.2) mg))) E hr hlk (0, (mf 1), (mf 2), (mi 3), (mf 55), (mf 53), (mf 54), (mf 16)) hw8 ⟨h1.1, h1.2, h3.1, h3.2, h2.1, h2.2, h12.1, h12.2, lf_rows, (show (((mi 6).toInt = 0 ∧ ((mf 1) 3).toInt = 0) ∨ ((mf 1) 3).toInt < (mi 6).toInt) from lf_lamp)⟩ (Nat.le_of_ble_eq_true rfl) (Nat.le_of_ble_eq_true rfl) dX12_nights_38
    · skip
      have hc_17 := neE (a := (mi 6).toInt) (b := 0) rfl (by decide +kernel) c_17
      refine lv_aload_n (pc := 23) E.1 E.2.1 dX12_nights_23 rfl (lv_at hl3 0 rfl) ?_
      refine x_get (pc := 24) (T := TX12) (N := 70) (ci := 12) (v := .ref (mr 1)) E hw8 inX12 0 1 q_1400 rfl rfl (by decide) rfl rfl dX12_nights_24 ?_
      refine lv_iconst (pc := 27) (v := 0) E.1 E.2.1 dX12_nights_27 (by decide +kernel) ?_
      refine x_iald (pc := 28) (f := (mf 1)) E hw8 1 rfl (inbE (a := 0) (by decide +kernel) (by omega)) dX12_nights_28 ?_
      refine lv_topi (fun v_18 ev_18 => ?_)
      refine lv_iload_n (pc := 29) E.1 E.2.1 dX12_nights_29 rfl (lv_at hl3 1 rfl) ?_
      refine lv_iadd (pc := 30) E.1 E.2.1 dX12_nights_30 ?_
      refine lv_topi (fun v_19 ev_19 => ?_)
      refine lv_sipush (pc := 31) (v := 9999) E.1 E.2.1 dX12_nights_31 (by decide +kernel) ?_
      refine lv_icmp_le (pc := 34) (tgt := 39) E.1 E.2.1 dX12_nights_34 (by decide) (fun c_20 => ?_) (fun c_20 => ?_)
      · skip
        have hc_20 := leE (a := v_19.toInt) (b := 9999) rfl (by decide +kernel) c_20
        have hlamp_21 : ((mf 1) 3).toInt + 1 ≤ (mi 6).toInt := by have q := lf_lamp; omega
        refine lv_iconst (pc := 39) (v := 0) E.1 E.2.1 dX12_nights_39 (by decide +kernel) ?_
        refine lv_istore_n (pc := 40) (lv' := [(2, .int 0), (0, .ref M), (1, .int z_n)]) E.1 E.2.1 dX12_nights_40 rfl hl3 (by decide) rfl (fun ls hl22 => ?_)
        refine lv_iconst (pc := 41) (v := 0) E.1 E.2.1 dX12_nights_41 (by decide +kernel) ?_
        refine lv_istore_n (pc := 42) (lv' := [(3, .int 0), (2, .int 0), (0, .ref M), (1, .int z_n)]) E.1 E.2.1 dX12_nights_42 rfl hl22 (by decide) rfl (fun ls hl23 => ?_)
        have loop_24 : ∀ (k : Nat) (x_25 : Int32) (x_26 : Int32) (x_27 : Int32) (g_28 : Nat → Int32) (g_29 : Nat → Int32) (g_30 : Nat → Int32) (g_31 : Nat → Int32) (g_32 : Nat → Int32) (g_33 : Nat → Int32) (H : Heap) (locs : List Loc) (ls : Array Slot), (0 ≤ x_25.toInt) ∧ (x_25.toInt ≤ z_n.toInt) ∧ (0 ≤ x_26.toInt) ∧ (x_26.toInt ≤ x_25.toInt) ∧ (0 ≤ x_27.toInt) ∧ (x_27.toInt ≤ 6) ∧ (0 ≤ (g_28 2).toInt) ∧ ((g_28 2).toInt ≤ 150) ∧ (0 ≤ (g_28 3).toInt) ∧ ((g_28 3).toInt + 1 ≤ (mi 6).toInt) ∧ (0 ≤ (g_28 5).toInt) ∧ ((g_28 5).toInt ≤ 200) ∧ (rowsOK x_27.toInt (mi 6).toInt g_29) → z_n.toInt - x_25.toInt < (k : Int) → WD D A s.heap (MW cI cJ M mr (upd (upd mi 0 0) 3 x_27) (va_up (va_up (va_up (va_up (va_up (va_up mf 1 g_28) 2 g_29) 16 g_33) 53 g_31) 54 g_32) 55 g_30) mg) H locs → lv_has ls 4 [(3, .int x_25), (2, .int x_26), (0, .ref M), (1, .int z_n)] → W p l e ({ frames := 8, cells := 0, slots := 0, locals := 201 } : Room) s m ([.ref M, .int z_n] : List Value).toArray below meth c H locs 0 0 (MQ below (va_Qi (fun (r : Int32) (u : Int32 × (Nat → Int32) × (Nat → Int32) × Int32 × (Nat → Int32) × (Nat → Int32) × (Nat → Int32) × (Nat → Int32)) => (0 ≤ (u.2.1 2).toInt) ∧ ((u.2.1 2).toInt ≤ 150) ∧ (0 ≤ (u.2.1 5).toInt) ∧ ((u.2.1 5).toInt ≤ 200) ∧ (0 ≤ (u.2.1 3).toInt) ∧ ((u.2.1 3).toInt ≤ 9) ∧ (0 ≤ u.2.2.2.1.toInt) ∧ (u.2.2.2.1.toInt ≤ 6) ∧ (rowsOK u.2.2.2.1.toInt (mi 6).toInt u.2.2.1) ∧ ((((mi 6).toInt = 0 ∧ (u.2.1 3).toInt = 0) ∨ (u.2.1 3).toInt < (mi 6).toInt))) (fun u => QW D cI cJ A ((fun (u : Int32 × (Nat → Int32) × (Nat → Int32) × Int32 × (Nat → Int32) × (Nat → Int32) × (Nat → Int32) × (Nat → Int32)) => (MW cI cJ M mr (upd (upd mi 0 u.1) 3 u.2.2.2.1) (va_up (va_up (va_up (va_up (va_up (va_up mf 1 u.2.1) 2 u.2.2.1) 55 u.2.2.2.2.1) 53 u.2.2.2.2.2.1) 54 u.2.2.2.2.2.2.1) 16 u.2.2.2.2.2.2.2) mg)) u)) A) ([.ref M, .int z_n] : List Value).toArray s 0 0 A) (F0 m 43 ls []) := by
          intro k
          induction k with
          | zero =>
            intro x_25 x_26 x_27 g_28 g_29 g_30 g_31 g_32 g_33 _ _ _ hinv hm
            obtain ⟨hi_33_0, hi_33_1, hi_33_2, hi_33_3, hi_33_4, hi_33_5, hi_33_6, hi_33_7, hi_33_8, hi_33_9, hi_33_10, hi_33_11, hi_33_12⟩ := hinv
            exact absurd hm (by omega)
          | succ k ih_34 =>
            intro x_25 x_26 x_27 g_28 g_29 g_30 g_31 g_32 g_33 H locs ls hinv hm hw35 hl36
            obtain ⟨hi_33_0, hi_33_1, hi_33_2, hi_33_3, hi_33_4, hi_33_5, hi_33_6, hi_33_7, hi_33_8, hi_33_9, hi_33_10, hi_33_11, hi_33_12⟩ := hinv
            refine lv_iload_n (pc := 43) E.1 E.2.1 dX12_nights_43 rfl (lv_at hl36 0 rfl) ?_
            refine lv_iload_n (pc := 44) E.1 E.2.1 dX12_nights_44 rfl (lv_at hl36 3 rfl) ?_
            refine lv_icmp_ge (pc := 45) (tgt := 69) E.1 E.2.1 dX12_nights_45 (by decide) (fun c_37 => ?_) (fun c_37 => ?_)
            · skip
              have hc_37 := leE (a := z_n.toInt) (b := x_25.toInt) rfl rfl c_37
              refine lv_iload_n (pc := 69) E.1 E.2.1 dX12_nights_69 rfl (lv_at hl36 1 rfl) ?_
              exact em_i (w1 := (fun (u : Int32 × (Nat → Int32) × (Nat → Int32) × Int32 × (Nat → Int32) × (Nat → Int32) × (Nat → Int32) × (Nat → Int32)) => (MW cI cJ M mr (upd (upd mi 0 u.1) 3 u.2.2.2.1) (va_up (va_up (va_up (va_up (va_up (va_up mf 1 u.2.1) 2 u.2.2.1) 55 u.2.2.2.2.1) 53 u.2.2.2.2.2.1) 54 u.2.2.2.2.2.2.1) 16 u.2.2.2.2.2.2.2) mg))) E hr hlk (0, g_28, g_29, x_27, g_30, g_31, g_32, g_33) hw35 ⟨hi_33_6, hi_33_7, hi_33_10, hi_33_11, hi_33_8, (by show (g_28 3).toInt ≤ 9; have k_0 : (0 : Int32).toInt = 0 := (by decide +kernel); omega), hi_33_4, hi_33_5, hi_33_12, (show (((mi 6).toInt = 0 ∧ (g_28 3).toInt = 0) ∨ (g_28 3).toInt < (mi 6).toInt) from (Or.inr (by omega)))⟩ (Nat.le_of_ble_eq_true rfl) (Nat.le_of_ble_eq_true rfl) dX12_nights_70
            · skip
              have hc_37 := nleE (a := z_n.toInt) (b := x_25.toInt) rfl rfl c_37
              refine lv_aload_n (pc := 48) E.1 E.2.1 dX12_nights_48 rfl (lv_at hl36 2 rfl) ?_
              refine cm_v (pc := 49) hw35 (rn_M (As := []) (rest := []) E hw35 (s_keepsAhead l D cI cJ _ M mr (upd (upd mi 0 0) 3 x_27) (va_up (va_up (va_up (va_up (va_up (va_up mf 1 g_28) 2 g_29) 16 g_33) 53 g_31) 54 g_32) 55 g_30) mg ⟨hi_33_4, hi_33_5⟩ ⟨hi_33_6, hi_33_7⟩ hi_33_8 hi_33_9 ⟨hi_33_10, hi_33_11⟩ (show rowsOK x_27.toInt (mi 6).toInt g_29 from hi_33_12)) (gdV q_1831 q_1833 q_90 q_162 q_1834) hdV_X12_keepsAhead ⟨rfl, rfl⟩ ⟨(Nat.le_of_ble_eq_true rfl), (Nat.le_of_ble_eq_true rfl)⟩ ⟨(Nat.le_of_ble_eq_true rfl), (Nat.le_of_ble_eq_true rfl)⟩ 12 rfl rfl rfl rfl hl36.1 rfl (Nat.le_of_ble_eq_true rfl) dX12_nights_49) (fun u_38 H1 locs hp hw40 => ?_)
              obtain ⟨nundoable_41, grows_42⟩ := u_38
              generalize H1 = H at hw40 ⊢
              have hw43 : WD D A s.heap (MW cI cJ M mr (upd (upd mi 0 0) 3 nundoable_41) (va_up (va_up (va_up (va_up (va_up (va_up mf 1 g_28) 2 grows_42) 16 g_33) 53 g_31) 54 g_32) 55 g_30) mg) H locs := hw40
              obtain ⟨hp_44, hp_45⟩ := hp
              have hp_44 : 1 ≤ nundoable_41.toInt ∧ nundoable_41.toInt ≤ 6 := hp_44
              have hp_45 : rowsOK nundoable_41.toInt (mi 6).toInt grows_42 := hp_45
              refine lv_aload_n (pc := 52) E.1 E.2.1 dX12_nights_52 rfl (lv_at hl36 2 rfl) ?_
              refine cm_i (pc := 53) hw43 (rn_M (As := []) (rest := []) E hw43 (s_goesBy l D cI cJ _ M mr (upd (upd mi 0 0) 3 nundoable_41) (va_up (va_up (va_up (va_up (va_up (va_up mf 1 g_28) 2 grows_42) 16 g_33) 53 g_31) 54 g_32) 55 g_30) mg hi_33_8 hi_33_9 h0.2 ⟨hi_33_6, hi_33_7⟩ ⟨hi_33_10, hi_33_11⟩ h4 h5 h6 h7 h8 h9 h10 h11 a_paths (show LW 0 0 (mf 31) (mf 32) (mf 28) (mf 29) (mf 30) ((mf 27) 0).toInt 400 from lf_law0) (show LW 16 400 (mf 31) (mf 32) (mf 28) (mf 29) (mf 30) ((mf 27) 1).toInt 400 from lf_law1) (show rndOK (mi 49).toInt (mi 6).toInt (mf 50) from lf_round)) (gdV q_1835 q_1837 q_91 q_162 q_1838) hdV_X12_goesBy ⟨rfl, rfl⟩ ⟨(Nat.le_of_ble_eq_true rfl), (Nat.le_of_ble_eq_true rfl)⟩ ⟨(Nat.le_of_ble_eq_true rfl), (Nat.le_of_ble_eq_true rfl)⟩ 12 rfl rfl rfl rfl hl36.1 rfl (Nat.le_of_ble_eq_true rfl) dX12_nights_53) (fun r_47 u_46 H1 locs hp hw48 => ?_)
              obtain ⟨gnow_49, gfarOf_50, gasked_51, gstack_52, gbook_53⟩ := u_46
              generalize H1 = H at hw48 ⊢
              have hw54 : WD D A s.heap (MW cI cJ M mr (upd (upd mi 0 0) 3 nundoable_41) (va_up (va_up (va_up (va_up (va_up (va_up mf 1 gnow_49) 2 grows_42) 16 gbook_53) 53 gasked_51) 54 gstack_52) 55 gfarOf_50) mg) H locs := hw48
              obtain ⟨hp_55, hp_56, hp_57, hp_58, hp_59, hp_60, hp_61, hp_62⟩ := hp
              have hp_55 : 0 ≤ r_47.toInt := hp_55
              have hp_56 : r_47.toInt ≤ 1 := hp_56
              have hp_57 : 0 ≤ (gnow_49 2).toInt := hp_57
              have hp_58 : (gnow_49 2).toInt ≤ 150 := hp_58
              have hp_59 : 0 ≤ (gnow_49 5).toInt := hp_59
              have hp_60 : (gnow_49 5).toInt ≤ 200 := hp_60
              have hp_61 : 0 ≤ (gnow_49 3).toInt := hp_61
              have hp_62 : (gnow_49 3).toInt + 1 ≤ (mi 6).toInt := hp_62
              refine lv_if_eq (pc := 56) (tgt := 63) E.1 E.2.1 dX12_nights_56 (by decide) (fun c_63 => ?_) (fun c_63 => ?_)
              · skip
                have hc_63 := eqE (a := r_47.toInt) (b := 0) rfl (by decide +kernel) c_63
                obtain ⟨v_64, ev_64⟩ : ∃ z : Int32, x_25 + Int32.ofInt (1) = z := ⟨_, rfl⟩
                have hv_64 : v_64.toInt = x_25.toInt + (1) := by rw [← ev_64]; exact incE rfl (by decide) (by omega)
                refine lv_iinc (pc := 63) (v := v_64) (lv' := [(3, .int v_64), (2, .int x_26), (0, .ref M), (1, .int z_n)]) E.1 E.2.1 dX12_nights_63 hl36 (k := 0) rfl ev_64 (by decide) rfl (fun ls hl65 => ?_)
                refine lv_goto (pc := 66) (tgt := 43) E.1 E.2.1 dX12_nights_66 (by decide) ?_
                exact ih_34 v_64 x_26 nundoable_41 gnow_49 grows_42 gfarOf_50 gasked_51 gstack_52 gbook_53 _ _ _ ⟨(by show 0 ≤ v_64.toInt; omega), (by show v_64.toInt ≤ z_n.toInt; omega), hi_33_2, (by show x_26.toInt ≤ v_64.toInt; omega), (by show 0 ≤ nundoable_41.toInt; omega), hp_44.2, hp_57, hp_58, hp_61, hp_62, hp_59, hp_60, (show rowsOK nundoable_41.toInt (mi 6).toInt grows_42 from hp_45)⟩ (by omega) hw54 (lv_sub hl65 [0, 1, 2, 3] rfl)
              · skip
                have hc_63 := neE (a := r_47.toInt) (b := 0) rfl (by decide +kernel) c_63
                refine lv_iload_n (pc := 59) E.1 E.2.1 dX12_nights_59 rfl (lv_at hl36 1 rfl) ?_
                refine lv_iconst (pc := 60) (v := 1) E.1 E.2.1 dX12_nights_60 (by decide +kernel) ?_
                refine lv_iadd (pc := 61) E.1 E.2.1 dX12_nights_61 ?_
                refine lv_topi (fun v_66 ev_66 => ?_)
                have hv_66 : v_66.toInt = x_26.toInt + 1 := by rw [ev_66]; exact addE rfl (by decide +kernel) (by omega)
                refine lv_istore_n (pc := 62) (lv' := [(2, .int v_66), (3, .int x_25), (0, .ref M), (1, .int z_n)]) E.1 E.2.1 dX12_nights_62 rfl hl36 (by decide) rfl (fun ls hl67 => ?_)
                obtain ⟨v_68, ev_68⟩ : ∃ z : Int32, x_25 + Int32.ofInt (1) = z := ⟨_, rfl⟩
                have hv_68 : v_68.toInt = x_25.toInt + (1) := by rw [← ev_68]; exact incE rfl (by decide) (by omega)
                refine lv_iinc (pc := 63) (v := v_68) (lv' := [(3, .int v_68), (2, .int v_66), (0, .ref M), (1, .int z_n)]) E.1 E.2.1 dX12_nights_63 hl67 (k := 1) rfl ev_68 (by decide) rfl (fun ls hl69 => ?_)
                refine lv_goto (pc := 66) (tgt := 43) E.1 E.2.1 dX12_nights_66 (by decide) ?_
                exact ih_34 v_68 v_66 nundoable_41 gnow_49 grows_42 gfarOf_50 gasked_51 gstack_52 gbook_53 _ _ _ ⟨(by show 0 ≤ v_68.toInt; omega), (by show v_68.toInt ≤ z_n.toInt; omega), (by show 0 ≤ v_66.toInt; omega), (by show v_66.toInt ≤ v_68.toInt; omega), (by show 0 ≤ nundoable_41.toInt; omega), hp_44.2, hp_57, hp_58, hp_61, hp_62, hp_59, hp_60, (show rowsOK nundoable_41.toInt (mi 6).toInt grows_42 from hp_45)⟩ (by omega) hw54 (lv_sub hl69 [0, 1, 2, 3] rfl)
        exact loop_24 (Int.toNat (z_n.toInt - 0) + 1) 0 0 (mi 3) (mf 1) (mf 2) (mf 55) (mf 53) (mf 54) (mf 16) _ _ _ ⟨(by show 0 ≤ (0 : Int32).toInt; have k_0 : (0 : Int32).toInt = 0 := (by decide +kernel); omega), (by show (0 : Int32).toInt ≤ z_n.toInt; have k_0 : (0 : Int32).toInt = 0 := (by decide +kernel); omega), (by show 0 ≤ (0 : Int32).toInt; have k_0 : (0 : Int32).toInt = 0 := (by decide +kernel); omega), (by show (0 : Int32).toInt ≤ (0 : Int32).toInt; have k_0 : (0 : Int32).toInt = 0 := (by decide +kernel); omega), h12.1, h12.2, h1.1, h1.2, h2.1, (by show ((mf 1) 3).toInt + 1 ≤ (mi 6).toInt; omega), h3.1, h3.2, (show rowsOK (mi 3).toInt (mi 6).toInt (mf 2) from lf_rows)⟩ (by have k_0 : (0 : Int32).toInt = 0 := (by decide +kernel); have k_1 : (0 : Int32).toInt = 0 := (by decide +kernel); omega) hw8 (lv_sub hl23 [0, 1, 2, 3] rfl)
      · skip
        have hc_20 := nleE (a := v_19.toInt) (b := 9999) rfl (by decide +kernel) c_20
        refine lv_iconst (pc := 37) (v := (-1)) E.1 E.2.1 dX12_nights_37 (by decide +kernel) ?_
        exact em_i (w1 := (fun (u : Int32 × (Nat → Int32) × (Nat → Int32) × Int32 × (Nat → Int32) × (Nat → Int32) × (Nat → Int32) × (Nat → Int32)) => (MW cI cJ M mr (upd (upd mi 0 u.1) 3 u.2.2.2.1) (va_up (va_up (va_up (va_up (va_up (va_up mf 1 u.2.1) 2 u.2.2.1) 55 u.2.2.2.2.1) 53 u.2.2.2.2.2.1) 54 u.2.2.2.2.2.2.1) 16 u.2.2.2.2.2.2.2) mg))) E hr hlk (0, (mf 1), (mf 2), (mi 3), (mf 55), (mf 53), (mf 54), (mf 16)) hw8 ⟨h1.1, h1.2, h3.1, h3.2, h2.1, h2.2, h12.1, h12.2, lf_rows, (show (((mi 6).toInt = 0 ∧ ((mf 1) 3).toInt = 0) ∨ ((mf 1) 3).toInt < (mi 6).toInt) from lf_lamp)⟩ (Nat.le_of_ble_eq_true rfl) (Nat.le_of_ble_eq_true rfl) dX12_nights_38

set_option maxHeartbeats 4000000 in
set_option maxRecDepth 100000 in
theorem s_goesFor (l : Launch) (D : va_G) (cI cJ : ClassId) (sz M : Nat) (mr : Nat → Nat) (mi : Nat → Int32) (mf : Nat → Nat → Int32) (mg : Nat → Nat → Int64) (z_n : Int32) (h0 : 0 ≤ ((mf 1) 3).toInt) (h1 : ((mf 1) 3).toInt + 1 ≤ (mi 6).toInt) (h2 : (mi 6).toInt ≤ 10) (h3 : 0 ≤ ((mf 1) 2).toInt ∧ ((mf 1) 2).toInt ≤ 150) (h4 : 0 ≤ ((mf 1) 5).toInt ∧ ((mf 1) 5).toInt ≤ 200) (h5 : 0 ≤ (mi 44).toInt ∧ (mi 44).toInt ≤ 10) (h6 : 0 ≤ (mi 42).toInt ∧ (mi 42).toInt ≤ 40) (h7 : 0 ≤ ((mf 27) 0).toInt) (h8 : ((mf 27) 0).toInt ≤ 16) (h9 : 0 ≤ ((mf 27) 1).toInt) (h10 : ((mf 27) 1).toInt ≤ 16) (h11 : 0 ≤ (mi 49).toInt ∧ (mi 49).toInt ≤ 200) (h12 : (-29) ≤ (mi 15).toInt ∧ (mi 15).toInt ≤ 69) (h13 : 1 ≤ z_n.toInt ∧ z_n.toInt ≤ 99) (a_paths : pathsOK (mf 43)) (lf_law0 : LW 0 0 (mf 31) (mf 32) (mf 28) (mf 29) (mf 30) ((mf 27) 0).toInt 400) (lf_law1 : LW 16 400 (mf 31) (mf 32) (mf 28) (mf 29) (mf 30) ((mf 27) 1).toInt 400) (lf_round : rndOK (mi 49).toInt (mi 6).toInt (mf 50)) : Met l yX12_goesFor (Cond.code yX12_goesFor cX12_goesFor 4 (some .int) :: GW) ({ frames := 8, cells := 0, slots := 0, locals := 201 } : Room) (va_Pc [.ref M, .int z_n] (PW D cI cJ sz (MW cI cJ M mr mi mf mg) xT)) (va_Qi (fun (r : Int32) (u : (Nat → Int32) × (Nat → Int32) × Int32 × Int32 × Int32 × Int32 × (Nat → Int32) × (Nat → Int32) × (Nat → Int32) × (Nat → Int32)) => ((u.1 2).toInt = ((mf 1) 2).toInt) ∧ ((u.1 3).toInt = ((mf 1) 3).toInt) ∧ ((u.1 5).toInt = ((mf 1) 5).toInt) ∧ (u.2.2.1.toInt = 0)) (fun u => QW D cI cJ (va_A (MW cI cJ M mr mi mf mg) sz) ((fun (u : (Nat → Int32) × (Nat → Int32) × Int32 × Int32 × Int32 × Int32 × (Nat → Int32) × (Nat → Int32) × (Nat → Int32) × (Nat → Int32)) => (MW cI cJ M mr (upd (upd (upd (upd mi 5 u.2.2.1) 56 u.2.2.2.1) 57 u.2.2.2.2.1) 58 u.2.2.2.2.2.1) (va_up (va_up (va_up (va_up (va_up (va_up mf 1 u.1) 4 u.2.1) 55 u.2.2.2.2.2.2.1) 53 u.2.2.2.2.2.2.2.1) 54 u.2.2.2.2.2.2.2.2.1) 16 u.2.2.2.2.2.2.2.2.2) mg)) u)) (va_A (MW cI cJ M mr mi mf mg) sz)) 0 0 (va_A (MW cI cJ M mr mi mf mg) sz) := by
  refine mk_met (y := yX12_goesFor) (bytes := cX12_goesFor) (maxL := 4) (avs := [.ref M, .int z_n]) (WS := (MW cI cJ M mr mi mf mg)) (Qf := fun A => va_Qi (fun (r : Int32) (u : (Nat → Int32) × (Nat → Int32) × Int32 × Int32 × Int32 × Int32 × (Nat → Int32) × (Nat → Int32) × (Nat → Int32) × (Nat → Int32)) => ((u.1 2).toInt = ((mf 1) 2).toInt) ∧ ((u.1 3).toInt = ((mf 1) 3).toInt) ∧ ((u.1 5).toInt = ((mf 1) 5).toInt) ∧ (u.2.2.1.toInt = 0)) (fun u => QW D cI cJ A ((fun (u : (Nat → Int32) × (Nat → Int32) × Int32 × Int32 × Int32 × Int32 × (Nat → Int32) × (Nat → Int32) × (Nat → Int32) × (Nat → Int32)) => (MW cI cJ M mr (upd (upd (upd (upd mi 5 u.2.2.1) 56 u.2.2.2.1) 57 u.2.2.2.2.1) 58 u.2.2.2.2.2.1) (va_up (va_up (va_up (va_up (va_up (va_up mf 1 u.1) 4 u.2.1) 55 u.2.2.2.2.2.2.1) 53 u.2.2.2.2.2.2.2.1) 54 u.2.2.2.2.2.2.2.2.1) 16 u.2.2.2.2.2.2.2.2.2) mg)) u)) A) (by decide) (Nat.le_of_ble_eq_true rfl) ?_
  intro p e s m below meth c A ls E hr hlk hnm hX hw1 hl2
  have hl3 : lv_has ls 4 [(0, .ref M), (1, .int z_n)] := hl2
  refine lv_aload_n (pc := 0) E.1 E.2.1 dX12_goesFor_0 rfl (lv_at hl3 0 rfl) ?_
  refine cm_v (pc := 1) hw1 (rn_M (As := []) (rest := []) E hw1 (s_thinks l D cI cJ _ M mr mi mf mg ) (gdV q_1978 q_1980 q_122 q_162 q_1981) hdV_X12_thinks ⟨rfl, rfl⟩ ⟨(Nat.le_of_ble_eq_true rfl), (Nat.le_of_ble_eq_true rfl)⟩ ⟨(Nat.le_of_ble_eq_true rfl), (Nat.le_of_ble_eq_true rfl)⟩ 12 rfl rfl rfl rfl hl3.1 rfl (Nat.le_of_ble_eq_true rfl) dX12_goesFor_1) (fun u_4 H1 locs hp hw6 => ?_)
  obtain ⟨gwaiting_7, nisThought_8⟩ := u_4
  generalize H1 = H at hw6 ⊢
  have hw9 : WD D A s.heap (MW cI cJ M mr (upd mi 5 nisThought_8) (va_up mf 4 gwaiting_7) mg) H locs := hw6
  obtain ⟨hp_10, hp_11, hp_12, hp_13⟩ := hp
  have hp_10 : nisThought_8.toInt = 1 := hp_10
  have hp_11 : (gwaiting_7 2).toInt = ((mf 1) 2).toInt := hp_11
  have hp_12 : (gwaiting_7 3).toInt = ((mf 1) 3).toInt := hp_12
  have hp_13 : (gwaiting_7 5).toInt = ((mf 1) 5).toInt := hp_13
  refine lv_aload_n (pc := 4) E.1 E.2.1 dX12_goesFor_4 rfl (lv_at hl3 0 rfl) ?_
  refine lv_iconst (pc := 5) (v := 0) E.1 E.2.1 dX12_goesFor_5 (by decide +kernel) ?_
  refine x_put (pc := 6) (T := TX12) (N := 70) (ci := 12) (ws' := (MW cI cJ M mr (upd (upd mi 5 nisThought_8) 56 0) (va_up mf 4 gwaiting_7) mg)) E hw9 inX12 tyX12_ok nmX12 0 56 q_1455 rfl rfl (by decide) rfl rfl rfl rfl (Nat.le_of_ble_eq_true rfl) rfl dX12_goesFor_6 (fun H locs hw14 => ?_)
  refine lv_aload_n (pc := 9) E.1 E.2.1 dX12_goesFor_9 rfl (lv_at hl3 0 rfl) ?_
  refine lv_iconst (pc := 10) (v := 0) E.1 E.2.1 dX12_goesFor_10 (by decide +kernel) ?_
  refine x_put (pc := 11) (T := TX12) (N := 70) (ci := 12) (ws' := (MW cI cJ M mr (upd (upd (upd mi 5 nisThought_8) 56 0) 57 0) (va_up mf 4 gwaiting_7) mg)) E hw14 inX12 tyX12_ok nmX12 0 57 q_1456 rfl rfl (by decide) rfl rfl rfl rfl (Nat.le_of_ble_eq_true rfl) rfl dX12_goesFor_11 (fun H locs hw15 => ?_)
  refine lv_aload_n (pc := 14) E.1 E.2.1 dX12_goesFor_14 rfl (lv_at hl3 0 rfl) ?_
  refine lv_iconst (pc := 15) (v := (-1)) E.1 E.2.1 dX12_goesFor_15 (by decide +kernel) ?_
  refine x_put (pc := 16) (T := TX12) (N := 70) (ci := 12) (ws' := (MW cI cJ M mr (upd (upd (upd (upd mi 5 nisThought_8) 56 0) 57 0) 58 (-1)) (va_up mf 4 gwaiting_7) mg)) E hw15 inX12 tyX12_ok nmX12 0 58 q_1457 rfl rfl (by decide) rfl rfl rfl rfl (Nat.le_of_ble_eq_true rfl) rfl dX12_goesFor_16 (fun H locs hw16 => ?_)
  refine lv_iconst (pc := 19) (v := 0) E.1 E.2.1 dX12_goesFor_19 (by decide +kernel) ?_
  refine lv_istore_n (pc := 20) (lv' := [(2, .int 0), (0, .ref M), (1, .int z_n)]) E.1 E.2.1 dX12_goesFor_20 rfl hl3 (by decide) rfl (fun ls hl17 => ?_)
  have loop_18 : ∀ (k : Nat) (x_19 : Int32) (x_20 : Int32) (x_21 : Int32) (x_22 : Int32) (g_23 : Nat → Int32) (g_24 : Nat → Int32) (g_25 : Nat → Int32) (g_26 : Nat → Int32) (g_27 : Nat → Int32) (H : Heap) (locs : List Loc) (ls : Array Slot), (0 ≤ x_19.toInt) ∧ (x_19.toInt ≤ z_n.toInt) ∧ (0 ≤ (g_23 2).toInt) ∧ ((g_23 2).toInt ≤ 150) ∧ (0 ≤ (g_23 3).toInt) ∧ ((g_23 3).toInt + 1 ≤ (mi 6).toInt) ∧ (0 ≤ (g_23 5).toInt) ∧ ((g_23 5).toInt ≤ 200) → z_n.toInt - x_19.toInt < (k : Int) → WD D A s.heap (MW cI cJ M mr (upd (upd (upd (upd mi 5 nisThought_8) 56 x_20) 57 x_21) 58 x_22) (va_up (va_up (va_up (va_up (va_up (va_up mf 1 g_23) 4 gwaiting_7) 16 g_27) 53 g_25) 54 g_26) 55 g_24) mg) H locs → lv_has ls 4 [(2, .int x_19), (0, .ref M), (1, .int z_n)] → W p l e ({ frames := 8, cells := 0, slots := 0, locals := 201 } : Room) s m ([.ref M, .int z_n] : List Value).toArray below meth c H locs 0 0 (MQ below (va_Qi (fun (r : Int32) (u : (Nat → Int32) × (Nat → Int32) × Int32 × Int32 × Int32 × Int32 × (Nat → Int32) × (Nat → Int32) × (Nat → Int32) × (Nat → Int32)) => ((u.1 2).toInt = ((mf 1) 2).toInt) ∧ ((u.1 3).toInt = ((mf 1) 3).toInt) ∧ ((u.1 5).toInt = ((mf 1) 5).toInt) ∧ (u.2.2.1.toInt = 0)) (fun u => QW D cI cJ A ((fun (u : (Nat → Int32) × (Nat → Int32) × Int32 × Int32 × Int32 × Int32 × (Nat → Int32) × (Nat → Int32) × (Nat → Int32) × (Nat → Int32)) => (MW cI cJ M mr (upd (upd (upd (upd mi 5 u.2.2.1) 56 u.2.2.2.1) 57 u.2.2.2.2.1) 58 u.2.2.2.2.2.1) (va_up (va_up (va_up (va_up (va_up (va_up mf 1 u.1) 4 u.2.1) 55 u.2.2.2.2.2.2.1) 53 u.2.2.2.2.2.2.2.1) 54 u.2.2.2.2.2.2.2.2.1) 16 u.2.2.2.2.2.2.2.2.2) mg)) u)) A) ([.ref M, .int z_n] : List Value).toArray s 0 0 A) (F0 m 21 ls []) := by
    intro k
    induction k with
    | zero =>
      intro x_19 x_20 x_21 x_22 g_23 g_24 g_25 g_26 g_27 _ _ _ hinv hm
      obtain ⟨hi_27_0, hi_27_1, hi_27_2, hi_27_3, hi_27_4, hi_27_5, hi_27_6, hi_27_7⟩ := hinv
      exact absurd hm (by omega)
    | succ k ih_28 =>
      intro x_19 x_20 x_21 x_22 g_23 g_24 g_25 g_26 g_27 H locs ls hinv hm hw29 hl30
      obtain ⟨hi_27_0, hi_27_1, hi_27_2, hi_27_3, hi_27_4, hi_27_5, hi_27_6, hi_27_7⟩ := hinv
      refine lv_iload_n (pc := 21) E.1 E.2.1 dX12_goesFor_21 rfl (lv_at hl30 0 rfl) ?_
      refine lv_iload_n (pc := 22) E.1 E.2.1 dX12_goesFor_22 rfl (lv_at hl30 2 rfl) ?_
      refine lv_icmp_ge (pc := 23) (tgt := 130) E.1 E.2.1 dX12_goesFor_23 (by decide) (fun c_31 => ?_) (fun c_31 => ?_)
      · skip
        have hc_31 := leE (a := z_n.toInt) (b := x_19.toInt) rfl rfl c_31
        refine lv_aload_n (pc := 130) E.1 E.2.1 dX12_goesFor_130 rfl (lv_at hl30 1 rfl) ?_
        refine x_get (pc := 131) (T := TX12) (N := 70) (ci := 12) (v := .ref (mr 1)) E hw29 inX12 0 1 q_1400 rfl rfl (by decide) rfl rfl dX12_goesFor_131 ?_
        refine lv_iconst (pc := 134) (v := 3) E.1 E.2.1 dX12_goesFor_134 (by decide +kernel) ?_
        refine x_iald (pc := 135) (f := g_23) E hw29 1 rfl (inbE (a := 3) (by decide +kernel) (by omega)) dX12_goesFor_135 ?_
        refine lv_topi (fun v_32 ev_32 => ?_)
        have hv_32 : v_32.toInt = (g_23 3).toInt := by rw [ev_32]; rfl
        refine lv_istore_n (pc := 136) (lv' := [(2, .int v_32), (0, .ref M), (1, .int z_n)]) E.1 E.2.1 dX12_goesFor_136 rfl hl30 (by decide) rfl (fun ls hl33 => ?_)
        refine lv_aload_n (pc := 137) E.1 E.2.1 dX12_goesFor_137 rfl (lv_at hl33 1 rfl) ?_
        refine cm_v (pc := 138) hw29 (rn_M (As := []) (rest := []) E hw29 (s_endsThought l D cI cJ _ M mr (upd (upd (upd (upd mi 5 nisThought_8) 56 x_20) 57 x_21) 58 x_22) (va_up (va_up (va_up (va_up (va_up (va_up mf 1 g_23) 4 gwaiting_7) 16 g_27) 53 g_25) 54 g_26) 55 g_24) mg ) (gdV q_1982 q_1984 q_123 q_162 q_1985) hdV_X12_endsThought ⟨rfl, rfl⟩ ⟨(Nat.le_of_ble_eq_true rfl), (Nat.le_of_ble_eq_true rfl)⟩ ⟨(Nat.le_of_ble_eq_true rfl), (Nat.le_of_ble_eq_true rfl)⟩ 12 rfl rfl rfl rfl hl33.1 rfl (Nat.le_of_ble_eq_true rfl) dX12_goesFor_138) (fun u_34 H1 locs hp hw36 => ?_)
        obtain ⟨gnow_37, nisThought_38⟩ := u_34
        generalize H1 = H at hw36 ⊢
        have hw39 : WD D A s.heap (MW cI cJ M mr (upd (upd (upd (upd mi 5 nisThought_38) 56 x_20) 57 x_21) 58 x_22) (va_up (va_up (va_up (va_up (va_up (va_up mf 1 gnow_37) 4 gwaiting_7) 16 g_27) 53 g_25) 54 g_26) 55 g_24) mg) H locs := hw36
        obtain ⟨hp_40, hp_41, hp_42, hp_43⟩ := hp
        have hp_40 : nisThought_38.toInt = 0 := hp_40
        have hp_41 : (gnow_37 2).toInt = (gwaiting_7 2).toInt := hp_41
        have hp_42 : (gnow_37 3).toInt = (gwaiting_7 3).toInt := hp_42
        have hp_43 : (gnow_37 5).toInt = (gwaiting_7 5).toInt := hp_43
        refine lv_iload_n (pc := 141) E.1 E.2.1 dX12_goesFor_141 rfl (lv_at hl33 0 rfl) ?_
        exact em_i (w1 := (fun (u : (Nat → Int32) × (Nat → Int32) × Int32 × Int32 × Int32 × Int32 × (Nat → Int32) × (Nat → Int32) × (Nat → Int32) × (Nat → Int32)) => (MW cI cJ M mr (upd (upd (upd (upd mi 5 u.2.2.1) 56 u.2.2.2.1) 57 u.2.2.2.2.1) 58 u.2.2.2.2.2.1) (va_up (va_up (va_up (va_up (va_up (va_up mf 1 u.1) 4 u.2.1) 55 u.2.2.2.2.2.2.1) 53 u.2.2.2.2.2.2.2.1) 54 u.2.2.2.2.2.2.2.2.1) 16 u.2.2.2.2.2.2.2.2.2) mg))) E hr hlk (gnow_37, gwaiting_7, nisThought_38, x_20, x_21, x_22, g_24, g_25, g_26, g_27) hw39 ⟨(by show (gnow_37 2).toInt = ((mf 1) 2).toInt; omega), (by show (gnow_37 3).toInt = ((mf 1) 3).toInt; omega), (by show (gnow_37 5).toInt = ((mf 1) 5).toInt; omega), hp_40⟩ (Nat.le_of_ble_eq_true rfl) (Nat.le_of_ble_eq_true rfl) dX12_goesFor_142
      · skip
        have hc_31 := nleE (a := z_n.toInt) (b := x_19.toInt) rfl rfl c_31
        refine lv_aload_n (pc := 26) E.1 E.2.1 dX12_goesFor_26 rfl (lv_at hl30 1 rfl) ?_
        refine cm_i (pc := 27) hw29 (rn_M (As := []) (rest := []) E hw29 (s_goesBy l D cI cJ _ M mr (upd (upd (upd (upd mi 5 nisThought_8) 56 x_20) 57 x_21) 58 x_22) (va_up (va_up (va_up (va_up (va_up (va_up mf 1 g_23) 4 gwaiting_7) 16 g_27) 53 g_25) 54 g_26) 55 g_24) mg hi_27_4 hi_27_5 h2 ⟨hi_27_2, hi_27_3⟩ ⟨hi_27_6, hi_27_7⟩ h5 h6 h7 h8 h9 h10 h11 h12 a_paths (show LW 0 0 (mf 31) (mf 32) (mf 28) (mf 29) (mf 30) ((mf 27) 0).toInt 400 from lf_law0) (show LW 16 400 (mf 31) (mf 32) (mf 28) (mf 29) (mf 30) ((mf 27) 1).toInt 400 from lf_law1) (show rndOK (mi 49).toInt (mi 6).toInt (mf 50) from lf_round)) (gdV q_1835 q_1837 q_91 q_162 q_1838) hdV_X12_goesBy ⟨rfl, rfl⟩ ⟨(Nat.le_of_ble_eq_true rfl), (Nat.le_of_ble_eq_true rfl)⟩ ⟨(Nat.le_of_ble_eq_true rfl), (Nat.le_of_ble_eq_true rfl)⟩ 12 rfl rfl rfl rfl hl30.1 rfl (Nat.le_of_ble_eq_true rfl) dX12_goesFor_27) (fun r_45 u_44 H1 locs hp hw46 => ?_)
        obtain ⟨gnow_47, gfarOf_48, gasked_49, gstack_50, gbook_51⟩ := u_44
        generalize H1 = H at hw46 ⊢
        have hw52 : WD D A s.heap (MW cI cJ M mr (upd (upd (upd (upd mi 5 nisThought_8) 56 x_20) 57 x_21) 58 x_22) (va_up (va_up (va_up (va_up (va_up (va_up mf 1 gnow_47) 4 gwaiting_7) 16 gbook_51) 53 gasked_49) 54 gstack_50) 55 gfarOf_48) mg) H locs := hw46
        obtain ⟨hp_53, hp_54, hp_55, hp_56, hp_57, hp_58, hp_59, hp_60⟩ := hp
        have hp_53 : 0 ≤ r_45.toInt := hp_53
        have hp_54 : r_45.toInt ≤ 1 := hp_54
        have hp_55 : 0 ≤ (gnow_47 2).toInt := hp_55
        have hp_56 : (gnow_47 2).toInt ≤ 150 := hp_56
        have hp_57 : 0 ≤ (gnow_47 5).toInt := hp_57
        have hp_58 : (gnow_47 5).toInt ≤ 200 := hp_58
        have hp_59 : 0 ≤ (gnow_47 3).toInt := hp_59
        have hp_60 : (gnow_47 3).toInt + 1 ≤ (mi 6).toInt := hp_60
        refine lv_if_ne (pc := 30) (tgt := 43) E.1 E.2.1 dX12_goesFor_30 (by decide) (fun c_61 => ?_) (fun c_61 => ?_)
        · skip
          have hc_61 := neE (a := r_45.toInt) (b := 0) rfl (by decide +kernel) c_61
          refine lv_iconst (pc := 43) (v := 0) E.1 E.2.1 dX12_goesFor_43 (by decide +kernel) ?_
          refine lv_istore_n (pc := 44) (lv' := [(3, .int 0), (2, .int x_19), (0, .ref M), (1, .int z_n)]) E.1 E.2.1 dX12_goesFor_44 rfl hl30 (by decide) rfl (fun ls hl62 => ?_)
          have loop_63 : ∀ (k : Nat) (x_64 : Int32) (x_65 : Int32) (x_66 : Int32) (H : Heap) (locs : List Loc) (ls : Array Slot), (0 ≤ x_64.toInt) ∧ (x_64.toInt ≤ (mi 44).toInt) → (mi 44).toInt - x_64.toInt < (k : Int) → WD D A s.heap (MW cI cJ M mr (upd (upd (upd (upd mi 5 nisThought_8) 56 x_20) 57 x_65) 58 x_66) (va_up (va_up (va_up (va_up (va_up (va_up mf 1 gnow_47) 4 gwaiting_7) 16 gbook_51) 53 gasked_49) 54 gstack_50) 55 gfarOf_48) mg) H locs → lv_has ls 4 [(3, .int x_64), (2, .int x_19), (0, .ref M), (1, .int z_n)] → W p l e ({ frames := 8, cells := 0, slots := 0, locals := 201 } : Room) s m ([.ref M, .int z_n] : List Value).toArray below meth c H locs 0 0 (MQ below (va_Qi (fun (r : Int32) (u : (Nat → Int32) × (Nat → Int32) × Int32 × Int32 × Int32 × Int32 × (Nat → Int32) × (Nat → Int32) × (Nat → Int32) × (Nat → Int32)) => ((u.1 2).toInt = ((mf 1) 2).toInt) ∧ ((u.1 3).toInt = ((mf 1) 3).toInt) ∧ ((u.1 5).toInt = ((mf 1) 5).toInt) ∧ (u.2.2.1.toInt = 0)) (fun u => QW D cI cJ A ((fun (u : (Nat → Int32) × (Nat → Int32) × Int32 × Int32 × Int32 × Int32 × (Nat → Int32) × (Nat → Int32) × (Nat → Int32) × (Nat → Int32)) => (MW cI cJ M mr (upd (upd (upd (upd mi 5 u.2.2.1) 56 u.2.2.2.1) 57 u.2.2.2.2.1) 58 u.2.2.2.2.2.1) (va_up (va_up (va_up (va_up (va_up (va_up mf 1 u.1) 4 u.2.1) 55 u.2.2.2.2.2.2.1) 53 u.2.2.2.2.2.2.2.1) 54 u.2.2.2.2.2.2.2.2.1) 16 u.2.2.2.2.2.2.2.2.2) mg)) u)) A) ([.ref M, .int z_n] : List Value).toArray s 0 0 A) (F0 m 45 ls []) := by
            intro k
            induction k with
            | zero =>
              intro x_64 x_65 x_66 _ _ _ hinv hm
              obtain ⟨hi_66_0, hi_66_1⟩ := hinv
              exact absurd hm (by omega)
            | succ k ih_67 =>
              intro x_64 x_65 x_66 H locs ls hinv hm hw68 hl69
              obtain ⟨hi_66_0, hi_66_1⟩ := hinv
              refine lv_iload_n (pc := 45) E.1 E.2.1 dX12_goesFor_45 rfl (lv_at hl69 0 rfl) ?_
              refine lv_aload_n (pc := 46) E.1 E.2.1 dX12_goesFor_46 rfl (lv_at hl69 2 rfl) ?_
              refine x_get (pc := 47) (T := TX12) (N := 70) (ci := 12) (v := .int (mi 44)) E hw68 inX12 0 44 q_1443 rfl rfl (by decide) rfl rfl dX12_goesFor_47 ?_
              refine lv_icmp_ge (pc := 50) (tgt := 124) E.1 E.2.1 dX12_goesFor_50 (by decide) (fun c_70 => ?_) (fun c_70 => ?_)
              · skip
                have hc_70 := leE (a := (mi 44).toInt) (b := x_64.toInt) rfl rfl c_70
                obtain ⟨v_71, ev_71⟩ : ∃ z : Int32, x_19 + Int32.ofInt (1) = z := ⟨_, rfl⟩
                have hv_71 : v_71.toInt = x_19.toInt + (1) := by rw [← ev_71]; exact incE rfl (by decide) (by omega)
                refine lv_iinc (pc := 124) (v := v_71) (lv' := [(2, .int v_71), (3, .int x_64), (0, .ref M), (1, .int z_n)]) E.1 E.2.1 dX12_goesFor_124 hl69 (k := 1) rfl ev_71 (by decide) rfl (fun ls hl72 => ?_)
                refine lv_goto (pc := 127) (tgt := 21) E.1 E.2.1 dX12_goesFor_127 (by decide) ?_
                exact ih_28 v_71 x_20 x_65 x_66 gnow_47 gfarOf_48 gasked_49 gstack_50 gbook_51 _ _ _ ⟨(by show 0 ≤ v_71.toInt; omega), (by show v_71.toInt ≤ z_n.toInt; omega), hp_55, hp_56, hp_59, hp_60, hp_57, hp_58⟩ (by omega) hw68 (lv_sub hl72 [0, 2, 3] rfl)
              · skip
                have hc_70 := nleE (a := (mi 44).toInt) (b := x_64.toInt) rfl rfl c_70
                refine lv_aload_n (pc := 53) E.1 E.2.1 dX12_goesFor_53 rfl (lv_at hl69 2 rfl) ?_
                refine x_get (pc := 54) (T := TX12) (N := 70) (ci := 12) (v := .ref (mr 1)) E hw68 inX12 0 1 q_1400 rfl rfl (by decide) rfl rfl dX12_goesFor_54 ?_
                refine lv_bipush (pc := 57) (v := 56) E.1 E.2.1 dX12_goesFor_57 (by decide +kernel) ?_
                refine lv_iload_n (pc := 59) E.1 E.2.1 dX12_goesFor_59 rfl (lv_at hl69 0 rfl) ?_
                refine lv_iadd (pc := 60) E.1 E.2.1 dX12_goesFor_60 ?_
                refine lv_topi (fun v_73 ev_73 => ?_)
                have hv_73 : v_73.toInt = 56 + x_64.toInt := by rw [ev_73]; exact addE (by decide +kernel) rfl (by omega)
                refine x_iald (pc := 61) (f := gnow_47) E hw68 1 rfl (inbE (a := v_73.toInt) rfl (by omega)) dX12_goesFor_61 ?_
                refine lv_topi (fun v_74 ev_74 => ?_)
                refine lv_if_eq (pc := 62) (tgt := 118) E.1 E.2.1 dX12_goesFor_62 (by decide) (fun c_75 => ?_) (fun c_75 => ?_)
                · skip
                  have hc_75 := eqE (a := v_74.toInt) (b := 0) rfl (by decide +kernel) c_75
                  obtain ⟨v_76, ev_76⟩ : ∃ z : Int32, x_64 + Int32.ofInt (1) = z := ⟨_, rfl⟩
                  have hv_76 : v_76.toInt = x_64.toInt + (1) := by rw [← ev_76]; exact incE rfl (by decide) (by omega)
                  refine lv_iinc (pc := 118) (v := v_76) (lv' := [(3, .int v_76), (2, .int x_19), (0, .ref M), (1, .int z_n)]) E.1 E.2.1 dX12_goesFor_118 hl69 (k := 0) rfl ev_76 (by decide) rfl (fun ls hl77 => ?_)
                  refine lv_goto (pc := 121) (tgt := 45) E.1 E.2.1 dX12_goesFor_121 (by decide) ?_
                  exact ih_67 v_76 x_65 x_66 _ _ _ ⟨(by show 0 ≤ v_76.toInt; omega), (by show v_76.toInt ≤ (mi 44).toInt; omega)⟩ (by omega) hw68 (lv_sub hl77 [0, 1, 2, 3] rfl)
                · skip
                  have hc_75 := neE (a := v_74.toInt) (b := 0) rfl (by decide +kernel) c_75
                  refine lv_aload_n (pc := 65) E.1 E.2.1 dX12_goesFor_65 rfl (lv_at hl69 2 rfl) ?_
                  refine x_get (pc := 66) (T := TX12) (N := 70) (ci := 12) (v := .ref (mr 4)) E hw68 inX12 0 4 q_1403 rfl rfl (by decide) rfl rfl dX12_goesFor_66 ?_
                  refine lv_bipush (pc := 69) (v := 56) E.1 E.2.1 dX12_goesFor_69 (by decide +kernel) ?_
                  refine lv_iload_n (pc := 71) E.1 E.2.1 dX12_goesFor_71 rfl (lv_at hl69 0 rfl) ?_
                  refine lv_iadd (pc := 72) E.1 E.2.1 dX12_goesFor_72 ?_
                  refine lv_topi (fun v_78 ev_78 => ?_)
                  have hv_78 : v_78.toInt = 56 + x_64.toInt := by rw [ev_78]; exact addE (by decide +kernel) rfl (by omega)
                  refine x_iald (pc := 73) (f := gwaiting_7) E hw68 3 rfl (inbE (a := v_78.toInt) rfl (by omega)) dX12_goesFor_73 ?_
                  refine lv_topi (fun v_79 ev_79 => ?_)
                  refine lv_iconst (pc := 74) (v := 1) E.1 E.2.1 dX12_goesFor_74 (by decide +kernel) ?_
                  refine lv_icmp_eq (pc := 75) (tgt := 118) E.1 E.2.1 dX12_goesFor_75 (by decide) (fun c_80 => ?_) (fun c_80 => ?_)
                  · skip
                    have hc_80 := eqE (a := v_79.toInt) (b := 1) rfl (by decide +kernel) c_80
                    obtain ⟨v_81, ev_81⟩ : ∃ z : Int32, x_64 + Int32.ofInt (1) = z := ⟨_, rfl⟩
                    have hv_81 : v_81.toInt = x_64.toInt + (1) := by rw [← ev_81]; exact incE rfl (by decide) (by omega)
                    refine lv_iinc (pc := 118) (v := v_81) (lv' := [(3, .int v_81), (2, .int x_19), (0, .ref M), (1, .int z_n)]) E.1 E.2.1 dX12_goesFor_118 hl69 (k := 0) rfl ev_81 (by decide) rfl (fun ls hl82 => ?_)
                    refine lv_goto (pc := 121) (tgt := 45) E.1 E.2.1 dX12_goesFor_121 (by decide) ?_
                    exact ih_67 v_81 x_65 x_66 _ _ _ ⟨(by show 0 ≤ v_81.toInt; omega), (by show v_81.toInt ≤ (mi 44).toInt; omega)⟩ (by omega) hw68 (lv_sub hl82 [0, 1, 2, 3] rfl)
                  · skip
                    have hc_80 := neE (a := v_79.toInt) (b := 1) rfl (by decide +kernel) c_80
                    refine lv_aload_n (pc := 78) E.1 E.2.1 dX12_goesFor_78 rfl (lv_at hl69 2 rfl) ?_
                    refine x_get (pc := 79) (T := TX12) (N := 70) (ci := 12) (v := .int x_65) E hw68 inX12 0 57 q_1456 rfl rfl (by decide) rfl rfl dX12_goesFor_79 ?_
                    refine lv_iload_n (pc := 82) E.1 E.2.1 dX12_goesFor_82 rfl (lv_at hl69 0 rfl) ?_
                    refine lv_ishr (pc := 83) E.1 E.2.1 dX12_goesFor_83 ?_
                    refine lv_topi (fun v_83 ev_83 => ?_)
                    refine lv_iconst (pc := 84) (v := 1) E.1 E.2.1 dX12_goesFor_84 (by decide +kernel) ?_
                    refine lv_iand (pc := 85) E.1 E.2.1 dX12_goesFor_85 ?_
                    refine lv_topi (fun v_84 ev_84 => ?_)
                    refine lv_iconst (pc := 86) (v := 1) E.1 E.2.1 dX12_goesFor_86 (by decide +kernel) ?_
                    refine lv_icmp_ne (pc := 87) (tgt := 93) E.1 E.2.1 dX12_goesFor_87 (by decide) (fun c_85 => ?_) (fun c_85 => ?_)
                    · skip
                      have hc_85 := neE (a := v_84.toInt) (b := 1) rfl (by decide +kernel) c_85
                      refine lv_aload_n (pc := 93) E.1 E.2.1 dX12_goesFor_93 rfl (lv_at hl69 2 rfl) ?_
                      refine x_get (pc := 94) (T := TX12) (N := 70) (ci := 12) (v := .int x_66) E hw68 inX12 0 58 q_1457 rfl rfl (by decide) rfl rfl dX12_goesFor_94 ?_
                      refine lv_iconst (pc := 97) (v := (-1)) E.1 E.2.1 dX12_goesFor_97 (by decide +kernel) ?_
                      refine lv_icmp_ne (pc := 98) (tgt := 106) E.1 E.2.1 dX12_goesFor_98 (by decide) (fun c_86 => ?_) (fun c_86 => ?_)
                      · skip
                        have hc_86 := neE (a := x_66.toInt) (b := (-1)) rfl (by decide +kernel) c_86
                        refine lv_aload_n (pc := 106) E.1 E.2.1 dX12_goesFor_106 rfl (lv_at hl69 2 rfl) ?_
                        refine lv_aload_n (pc := 107) E.1 E.2.1 dX12_goesFor_107 rfl (lv_at hl69 2 rfl) ?_
                        refine x_get (pc := 108) (T := TX12) (N := 70) (ci := 12) (v := .int x_65) E hw68 inX12 0 57 q_1456 rfl rfl (by decide) rfl rfl dX12_goesFor_108 ?_
                        refine lv_iconst (pc := 111) (v := 1) E.1 E.2.1 dX12_goesFor_111 (by decide +kernel) ?_
                        refine lv_iload_n (pc := 112) E.1 E.2.1 dX12_goesFor_112 rfl (lv_at hl69 0 rfl) ?_
                        refine lv_ishl (pc := 113) E.1 E.2.1 dX12_goesFor_113 ?_
                        refine lv_topi (fun v_87 ev_87 => ?_)
                        have hb1v_87 : 1 ≤ v_87.toInt ∧ v_87.toInt ≤ 512 := by rw [ev_87]; exact shl9 (by omega)
                        refine lv_ior (pc := 114) E.1 E.2.1 dX12_goesFor_114 ?_
                        refine lv_topi (fun v_88 ev_88 => ?_)
                        refine x_put (pc := 115) (T := TX12) (N := 70) (ci := 12) (ws' := (MW cI cJ M mr (upd (upd (upd (upd mi 5 nisThought_8) 56 x_20) 57 v_88) 58 x_66) (va_up (va_up (va_up (va_up (va_up (va_up mf 1 gnow_47) 4 gwaiting_7) 16 gbook_51) 53 gasked_49) 54 gstack_50) 55 gfarOf_48) mg)) E hw68 inX12 tyX12_ok nmX12 0 57 q_1456 rfl rfl (by decide) rfl rfl rfl rfl (Nat.le_of_ble_eq_true rfl) rfl dX12_goesFor_115 (fun H locs hw89 => ?_)
                        obtain ⟨v_90, ev_90⟩ : ∃ z : Int32, x_64 + Int32.ofInt (1) = z := ⟨_, rfl⟩
                        have hv_90 : v_90.toInt = x_64.toInt + (1) := by rw [← ev_90]; exact incE rfl (by decide) (by omega)
                        refine lv_iinc (pc := 118) (v := v_90) (lv' := [(3, .int v_90), (2, .int x_19), (0, .ref M), (1, .int z_n)]) E.1 E.2.1 dX12_goesFor_118 hl69 (k := 0) rfl ev_90 (by decide) rfl (fun ls hl91 => ?_)
                        refine lv_goto (pc := 121) (tgt := 45) E.1 E.2.1 dX12_goesFor_121 (by decide) ?_
                        exact ih_67 v_90 v_88 x_66 _ _ _ ⟨(by show 0 ≤ v_90.toInt; omega), (by show v_90.toInt ≤ (mi 44).toInt; omega)⟩ (by omega) hw89 (lv_sub hl91 [0, 1, 2, 3] rfl)
                      · skip
                        have hc_86 := eqE (a := x_66.toInt) (b := (-1)) rfl (by decide +kernel) c_86
                        refine lv_aload_n (pc := 101) E.1 E.2.1 dX12_goesFor_101 rfl (lv_at hl69 2 rfl) ?_
                        refine lv_iload_n (pc := 102) E.1 E.2.1 dX12_goesFor_102 rfl (lv_at hl69 0 rfl) ?_
                        refine x_put (pc := 103) (T := TX12) (N := 70) (ci := 12) (ws' := (MW cI cJ M mr (upd (upd (upd (upd mi 5 nisThought_8) 56 x_20) 57 x_65) 58 x_64) (va_up (va_up (va_up (va_up (va_up (va_up mf 1 gnow_47) 4 gwaiting_7) 16 gbook_51) 53 gasked_49) 54 gstack_50) 55 gfarOf_48) mg)) E hw68 inX12 tyX12_ok nmX12 0 58 q_1457 rfl rfl (by decide) rfl rfl rfl rfl (Nat.le_of_ble_eq_true rfl) rfl dX12_goesFor_103 (fun H locs hw92 => ?_)
                        refine lv_aload_n (pc := 106) E.1 E.2.1 dX12_goesFor_106 rfl (lv_at hl69 2 rfl) ?_
                        refine lv_aload_n (pc := 107) E.1 E.2.1 dX12_goesFor_107 rfl (lv_at hl69 2 rfl) ?_
                        refine x_get (pc := 108) (T := TX12) (N := 70) (ci := 12) (v := .int x_65) E hw92 inX12 0 57 q_1456 rfl rfl (by decide) rfl rfl dX12_goesFor_108 ?_
                        refine lv_iconst (pc := 111) (v := 1) E.1 E.2.1 dX12_goesFor_111 (by decide +kernel) ?_
                        refine lv_iload_n (pc := 112) E.1 E.2.1 dX12_goesFor_112 rfl (lv_at hl69 0 rfl) ?_
                        refine lv_ishl (pc := 113) E.1 E.2.1 dX12_goesFor_113 ?_
                        refine lv_topi (fun v_93 ev_93 => ?_)
                        have hb1v_93 : 1 ≤ v_93.toInt ∧ v_93.toInt ≤ 512 := by rw [ev_93]; exact shl9 (by omega)
                        refine lv_ior (pc := 114) E.1 E.2.1 dX12_goesFor_114 ?_
                        refine lv_topi (fun v_94 ev_94 => ?_)
                        refine x_put (pc := 115) (T := TX12) (N := 70) (ci := 12) (ws' := (MW cI cJ M mr (upd (upd (upd (upd mi 5 nisThought_8) 56 x_20) 57 v_94) 58 x_64) (va_up (va_up (va_up (va_up (va_up (va_up mf 1 gnow_47) 4 gwaiting_7) 16 gbook_51) 53 gasked_49) 54 gstack_50) 55 gfarOf_48) mg)) E hw92 inX12 tyX12_ok nmX12 0 57 q_1456 rfl rfl (by decide) rfl rfl rfl rfl (Nat.le_of_ble_eq_true rfl) rfl dX12_goesFor_115 (fun H locs hw95 => ?_)
                        obtain ⟨v_96, ev_96⟩ : ∃ z : Int32, x_64 + Int32.ofInt (1) = z := ⟨_, rfl⟩
                        have hv_96 : v_96.toInt = x_64.toInt + (1) := by rw [← ev_96]; exact incE rfl (by decide) (by omega)
                        refine lv_iinc (pc := 118) (v := v_96) (lv' := [(3, .int v_96), (2, .int x_19), (0, .ref M), (1, .int z_n)]) E.1 E.2.1 dX12_goesFor_118 hl69 (k := 0) rfl ev_96 (by decide) rfl (fun ls hl97 => ?_)
                        refine lv_goto (pc := 121) (tgt := 45) E.1 E.2.1 dX12_goesFor_121 (by decide) ?_
                        exact ih_67 v_96 v_94 x_64 _ _ _ ⟨(by show 0 ≤ v_96.toInt; omega), (by show v_96.toInt ≤ (mi 44).toInt; omega)⟩ (by omega) hw95 (lv_sub hl97 [0, 1, 2, 3] rfl)
                    · skip
                      have hc_85 := eqE (a := v_84.toInt) (b := 1) rfl (by decide +kernel) c_85
                      refine lv_goto (pc := 90) (tgt := 118) E.1 E.2.1 dX12_goesFor_90 (by decide) ?_
                      obtain ⟨v_98, ev_98⟩ : ∃ z : Int32, x_64 + Int32.ofInt (1) = z := ⟨_, rfl⟩
                      have hv_98 : v_98.toInt = x_64.toInt + (1) := by rw [← ev_98]; exact incE rfl (by decide) (by omega)
                      refine lv_iinc (pc := 118) (v := v_98) (lv' := [(3, .int v_98), (2, .int x_19), (0, .ref M), (1, .int z_n)]) E.1 E.2.1 dX12_goesFor_118 hl69 (k := 0) rfl ev_98 (by decide) rfl (fun ls hl99 => ?_)
                      refine lv_goto (pc := 121) (tgt := 45) E.1 E.2.1 dX12_goesFor_121 (by decide) ?_
                      exact ih_67 v_98 x_65 x_66 _ _ _ ⟨(by show 0 ≤ v_98.toInt; omega), (by show v_98.toInt ≤ (mi 44).toInt; omega)⟩ (by omega) hw68 (lv_sub hl99 [0, 1, 2, 3] rfl)
          exact loop_63 (Int.toNat ((mi 44).toInt - 0) + 1) 0 x_21 x_22 _ _ _ ⟨(by show 0 ≤ (0 : Int32).toInt; have k_0 : (0 : Int32).toInt = 0 := (by decide +kernel); omega), (by show (0 : Int32).toInt ≤ (mi 44).toInt; have k_0 : (0 : Int32).toInt = 0 := (by decide +kernel); omega)⟩ (by have k_0 : (0 : Int32).toInt = 0 := (by decide +kernel); omega) hw52 (lv_sub hl62 [0, 1, 2, 3] rfl)
        · skip
          have hc_61 := eqE (a := r_45.toInt) (b := 0) rfl (by decide +kernel) c_61
          refine lv_aload_n (pc := 33) E.1 E.2.1 dX12_goesFor_33 rfl (lv_at hl30 1 rfl) ?_
          refine lv_aload_n (pc := 34) E.1 E.2.1 dX12_goesFor_34 rfl (lv_at hl30 1 rfl) ?_
          refine x_get (pc := 35) (T := TX12) (N := 70) (ci := 12) (v := .int x_20) E hw52 inX12 0 56 q_1455 rfl rfl (by decide) rfl rfl dX12_goesFor_35 ?_
          refine lv_iconst (pc := 38) (v := 1) E.1 E.2.1 dX12_goesFor_38 (by decide +kernel) ?_
          refine lv_iadd (pc := 39) E.1 E.2.1 dX12_goesFor_39 ?_
          refine lv_topi (fun v_100 ev_100 => ?_)
          refine x_put (pc := 40) (T := TX12) (N := 70) (ci := 12) (ws' := (MW cI cJ M mr (upd (upd (upd (upd mi 5 nisThought_8) 56 v_100) 57 x_21) 58 x_22) (va_up (va_up (va_up (va_up (va_up (va_up mf 1 gnow_47) 4 gwaiting_7) 16 gbook_51) 53 gasked_49) 54 gstack_50) 55 gfarOf_48) mg)) E hw52 inX12 tyX12_ok nmX12 0 56 q_1455 rfl rfl (by decide) rfl rfl rfl rfl (Nat.le_of_ble_eq_true rfl) rfl dX12_goesFor_40 (fun H locs hw101 => ?_)
          refine lv_iconst (pc := 43) (v := 0) E.1 E.2.1 dX12_goesFor_43 (by decide +kernel) ?_
          refine lv_istore_n (pc := 44) (lv' := [(3, .int 0), (2, .int x_19), (0, .ref M), (1, .int z_n)]) E.1 E.2.1 dX12_goesFor_44 rfl hl30 (by decide) rfl (fun ls hl102 => ?_)
          have loop_103 : ∀ (k : Nat) (x_104 : Int32) (x_105 : Int32) (x_106 : Int32) (H : Heap) (locs : List Loc) (ls : Array Slot), (0 ≤ x_104.toInt) ∧ (x_104.toInt ≤ (mi 44).toInt) → (mi 44).toInt - x_104.toInt < (k : Int) → WD D A s.heap (MW cI cJ M mr (upd (upd (upd (upd mi 5 nisThought_8) 56 v_100) 57 x_105) 58 x_106) (va_up (va_up (va_up (va_up (va_up (va_up mf 1 gnow_47) 4 gwaiting_7) 16 gbook_51) 53 gasked_49) 54 gstack_50) 55 gfarOf_48) mg) H locs → lv_has ls 4 [(3, .int x_104), (2, .int x_19), (0, .ref M), (1, .int z_n)] → W p l e ({ frames := 8, cells := 0, slots := 0, locals := 201 } : Room) s m ([.ref M, .int z_n] : List Value).toArray below meth c H locs 0 0 (MQ below (va_Qi (fun (r : Int32) (u : (Nat → Int32) × (Nat → Int32) × Int32 × Int32 × Int32 × Int32 × (Nat → Int32) × (Nat → Int32) × (Nat → Int32) × (Nat → Int32)) => ((u.1 2).toInt = ((mf 1) 2).toInt) ∧ ((u.1 3).toInt = ((mf 1) 3).toInt) ∧ ((u.1 5).toInt = ((mf 1) 5).toInt) ∧ (u.2.2.1.toInt = 0)) (fun u => QW D cI cJ A ((fun (u : (Nat → Int32) × (Nat → Int32) × Int32 × Int32 × Int32 × Int32 × (Nat → Int32) × (Nat → Int32) × (Nat → Int32) × (Nat → Int32)) => (MW cI cJ M mr (upd (upd (upd (upd mi 5 u.2.2.1) 56 u.2.2.2.1) 57 u.2.2.2.2.1) 58 u.2.2.2.2.2.1) (va_up (va_up (va_up (va_up (va_up (va_up mf 1 u.1) 4 u.2.1) 55 u.2.2.2.2.2.2.1) 53 u.2.2.2.2.2.2.2.1) 54 u.2.2.2.2.2.2.2.2.1) 16 u.2.2.2.2.2.2.2.2.2) mg)) u)) A) ([.ref M, .int z_n] : List Value).toArray s 0 0 A) (F0 m 45 ls []) := by
            intro k
            induction k with
            | zero =>
              intro x_104 x_105 x_106 _ _ _ hinv hm
              obtain ⟨hi_106_0, hi_106_1⟩ := hinv
              exact absurd hm (by omega)
            | succ k ih_107 =>
              intro x_104 x_105 x_106 H locs ls hinv hm hw108 hl109
              obtain ⟨hi_106_0, hi_106_1⟩ := hinv
              refine lv_iload_n (pc := 45) E.1 E.2.1 dX12_goesFor_45 rfl (lv_at hl109 0 rfl) ?_
              refine lv_aload_n (pc := 46) E.1 E.2.1 dX12_goesFor_46 rfl (lv_at hl109 2 rfl) ?_
              refine x_get (pc := 47) (T := TX12) (N := 70) (ci := 12) (v := .int (mi 44)) E hw108 inX12 0 44 q_1443 rfl rfl (by decide) rfl rfl dX12_goesFor_47 ?_
              refine lv_icmp_ge (pc := 50) (tgt := 124) E.1 E.2.1 dX12_goesFor_50 (by decide) (fun c_110 => ?_) (fun c_110 => ?_)
              · skip
                have hc_110 := leE (a := (mi 44).toInt) (b := x_104.toInt) rfl rfl c_110
                obtain ⟨v_111, ev_111⟩ : ∃ z : Int32, x_19 + Int32.ofInt (1) = z := ⟨_, rfl⟩
                have hv_111 : v_111.toInt = x_19.toInt + (1) := by rw [← ev_111]; exact incE rfl (by decide) (by omega)
                refine lv_iinc (pc := 124) (v := v_111) (lv' := [(2, .int v_111), (3, .int x_104), (0, .ref M), (1, .int z_n)]) E.1 E.2.1 dX12_goesFor_124 hl109 (k := 1) rfl ev_111 (by decide) rfl (fun ls hl112 => ?_)
                refine lv_goto (pc := 127) (tgt := 21) E.1 E.2.1 dX12_goesFor_127 (by decide) ?_
                exact ih_28 v_111 v_100 x_105 x_106 gnow_47 gfarOf_48 gasked_49 gstack_50 gbook_51 _ _ _ ⟨(by show 0 ≤ v_111.toInt; omega), (by show v_111.toInt ≤ z_n.toInt; omega), hp_55, hp_56, hp_59, hp_60, hp_57, hp_58⟩ (by omega) hw108 (lv_sub hl112 [0, 2, 3] rfl)
              · skip
                have hc_110 := nleE (a := (mi 44).toInt) (b := x_104.toInt) rfl rfl c_110
                refine lv_aload_n (pc := 53) E.1 E.2.1 dX12_goesFor_53 rfl (lv_at hl109 2 rfl) ?_
                refine x_get (pc := 54) (T := TX12) (N := 70) (ci := 12) (v := .ref (mr 1)) E hw108 inX12 0 1 q_1400 rfl rfl (by decide) rfl rfl dX12_goesFor_54 ?_
                refine lv_bipush (pc := 57) (v := 56) E.1 E.2.1 dX12_goesFor_57 (by decide +kernel) ?_
                refine lv_iload_n (pc := 59) E.1 E.2.1 dX12_goesFor_59 rfl (lv_at hl109 0 rfl) ?_
                refine lv_iadd (pc := 60) E.1 E.2.1 dX12_goesFor_60 ?_
                refine lv_topi (fun v_113 ev_113 => ?_)
                have hv_113 : v_113.toInt = 56 + x_104.toInt := by rw [ev_113]; exact addE (by decide +kernel) rfl (by omega)
                refine x_iald (pc := 61) (f := gnow_47) E hw108 1 rfl (inbE (a := v_113.toInt) rfl (by omega)) dX12_goesFor_61 ?_
                refine lv_topi (fun v_114 ev_114 => ?_)
                refine lv_if_eq (pc := 62) (tgt := 118) E.1 E.2.1 dX12_goesFor_62 (by decide) (fun c_115 => ?_) (fun c_115 => ?_)
                · skip
                  have hc_115 := eqE (a := v_114.toInt) (b := 0) rfl (by decide +kernel) c_115
                  obtain ⟨v_116, ev_116⟩ : ∃ z : Int32, x_104 + Int32.ofInt (1) = z := ⟨_, rfl⟩
                  have hv_116 : v_116.toInt = x_104.toInt + (1) := by rw [← ev_116]; exact incE rfl (by decide) (by omega)
                  refine lv_iinc (pc := 118) (v := v_116) (lv' := [(3, .int v_116), (2, .int x_19), (0, .ref M), (1, .int z_n)]) E.1 E.2.1 dX12_goesFor_118 hl109 (k := 0) rfl ev_116 (by decide) rfl (fun ls hl117 => ?_)
                  refine lv_goto (pc := 121) (tgt := 45) E.1 E.2.1 dX12_goesFor_121 (by decide) ?_
                  exact ih_107 v_116 x_105 x_106 _ _ _ ⟨(by show 0 ≤ v_116.toInt; omega), (by show v_116.toInt ≤ (mi 44).toInt; omega)⟩ (by omega) hw108 (lv_sub hl117 [0, 1, 2, 3] rfl)
                · skip
                  have hc_115 := neE (a := v_114.toInt) (b := 0) rfl (by decide +kernel) c_115
                  refine lv_aload_n (pc := 65) E.1 E.2.1 dX12_goesFor_65 rfl (lv_at hl109 2 rfl) ?_
                  refine x_get (pc := 66) (T := TX12) (N := 70) (ci := 12) (v := .ref (mr 4)) E hw108 inX12 0 4 q_1403 rfl rfl (by decide) rfl rfl dX12_goesFor_66 ?_
                  refine lv_bipush (pc := 69) (v := 56) E.1 E.2.1 dX12_goesFor_69 (by decide +kernel) ?_
                  refine lv_iload_n (pc := 71) E.1 E.2.1 dX12_goesFor_71 rfl (lv_at hl109 0 rfl) ?_
                  refine lv_iadd (pc := 72) E.1 E.2.1 dX12_goesFor_72 ?_
                  refine lv_topi (fun v_118 ev_118 => ?_)
                  have hv_118 : v_118.toInt = 56 + x_104.toInt := by rw [ev_118]; exact addE (by decide +kernel) rfl (by omega)
                  refine x_iald (pc := 73) (f := gwaiting_7) E hw108 3 rfl (inbE (a := v_118.toInt) rfl (by omega)) dX12_goesFor_73 ?_
                  refine lv_topi (fun v_119 ev_119 => ?_)
                  refine lv_iconst (pc := 74) (v := 1) E.1 E.2.1 dX12_goesFor_74 (by decide +kernel) ?_
                  refine lv_icmp_eq (pc := 75) (tgt := 118) E.1 E.2.1 dX12_goesFor_75 (by decide) (fun c_120 => ?_) (fun c_120 => ?_)
                  · skip
                    have hc_120 := eqE (a := v_119.toInt) (b := 1) rfl (by decide +kernel) c_120
                    obtain ⟨v_121, ev_121⟩ : ∃ z : Int32, x_104 + Int32.ofInt (1) = z := ⟨_, rfl⟩
                    have hv_121 : v_121.toInt = x_104.toInt + (1) := by rw [← ev_121]; exact incE rfl (by decide) (by omega)
                    refine lv_iinc (pc := 118) (v := v_121) (lv' := [(3, .int v_121), (2, .int x_19), (0, .ref M), (1, .int z_n)]) E.1 E.2.1 dX12_goesFor_118 hl109 (k := 0) rfl ev_121 (by decide) rfl (fun ls hl122 => ?_)
                    refine lv_goto (pc := 121) (tgt := 45) E.1 E.2.1 dX12_goesFor_121 (by decide) ?_
                    exact ih_107 v_121 x_105 x_106 _ _ _ ⟨(by show 0 ≤ v_121.toInt; omega), (by show v_121.toInt ≤ (mi 44).toInt; omega)⟩ (by omega) hw108 (lv_sub hl122 [0, 1, 2, 3] rfl)
                  · skip
                    have hc_120 := neE (a := v_119.toInt) (b := 1) rfl (by decide +kernel) c_120
                    refine lv_aload_n (pc := 78) E.1 E.2.1 dX12_goesFor_78 rfl (lv_at hl109 2 rfl) ?_
                    refine x_get (pc := 79) (T := TX12) (N := 70) (ci := 12) (v := .int x_105) E hw108 inX12 0 57 q_1456 rfl rfl (by decide) rfl rfl dX12_goesFor_79 ?_
                    refine lv_iload_n (pc := 82) E.1 E.2.1 dX12_goesFor_82 rfl (lv_at hl109 0 rfl) ?_
                    refine lv_ishr (pc := 83) E.1 E.2.1 dX12_goesFor_83 ?_
                    refine lv_topi (fun v_123 ev_123 => ?_)
                    refine lv_iconst (pc := 84) (v := 1) E.1 E.2.1 dX12_goesFor_84 (by decide +kernel) ?_
                    refine lv_iand (pc := 85) E.1 E.2.1 dX12_goesFor_85 ?_
                    refine lv_topi (fun v_124 ev_124 => ?_)
                    refine lv_iconst (pc := 86) (v := 1) E.1 E.2.1 dX12_goesFor_86 (by decide +kernel) ?_
                    refine lv_icmp_ne (pc := 87) (tgt := 93) E.1 E.2.1 dX12_goesFor_87 (by decide) (fun c_125 => ?_) (fun c_125 => ?_)
                    · skip
                      have hc_125 := neE (a := v_124.toInt) (b := 1) rfl (by decide +kernel) c_125
                      refine lv_aload_n (pc := 93) E.1 E.2.1 dX12_goesFor_93 rfl (lv_at hl109 2 rfl) ?_
                      refine x_get (pc := 94) (T := TX12) (N := 70) (ci := 12) (v := .int x_106) E hw108 inX12 0 58 q_1457 rfl rfl (by decide) rfl rfl dX12_goesFor_94 ?_
                      refine lv_iconst (pc := 97) (v := (-1)) E.1 E.2.1 dX12_goesFor_97 (by decide +kernel) ?_
                      refine lv_icmp_ne (pc := 98) (tgt := 106) E.1 E.2.1 dX12_goesFor_98 (by decide) (fun c_126 => ?_) (fun c_126 => ?_)
                      · skip
                        have hc_126 := neE (a := x_106.toInt) (b := (-1)) rfl (by decide +kernel) c_126
                        refine lv_aload_n (pc := 106) E.1 E.2.1 dX12_goesFor_106 rfl (lv_at hl109 2 rfl) ?_
                        refine lv_aload_n (pc := 107) E.1 E.2.1 dX12_goesFor_107 rfl (lv_at hl109 2 rfl) ?_
                        refine x_get (pc := 108) (T := TX12) (N := 70) (ci := 12) (v := .int x_105) E hw108 inX12 0 57 q_1456 rfl rfl (by decide) rfl rfl dX12_goesFor_108 ?_
                        refine lv_iconst (pc := 111) (v := 1) E.1 E.2.1 dX12_goesFor_111 (by decide +kernel) ?_
                        refine lv_iload_n (pc := 112) E.1 E.2.1 dX12_goesFor_112 rfl (lv_at hl109 0 rfl) ?_
                        refine lv_ishl (pc := 113) E.1 E.2.1 dX12_goesFor_113 ?_
                        refine lv_topi (fun v_127 ev_127 => ?_)
                        have hb1v_127 : 1 ≤ v_127.toInt ∧ v_127.toInt ≤ 512 := by rw [ev_127]; exact shl9 (by omega)
                        refine lv_ior (pc := 114) E.1 E.2.1 dX12_goesFor_114 ?_
                        refine lv_topi (fun v_128 ev_128 => ?_)
                        refine x_put (pc := 115) (T := TX12) (N := 70) (ci := 12) (ws' := (MW cI cJ M mr (upd (upd (upd (upd mi 5 nisThought_8) 56 v_100) 57 v_128) 58 x_106) (va_up (va_up (va_up (va_up (va_up (va_up mf 1 gnow_47) 4 gwaiting_7) 16 gbook_51) 53 gasked_49) 54 gstack_50) 55 gfarOf_48) mg)) E hw108 inX12 tyX12_ok nmX12 0 57 q_1456 rfl rfl (by decide) rfl rfl rfl rfl (Nat.le_of_ble_eq_true rfl) rfl dX12_goesFor_115 (fun H locs hw129 => ?_)
                        obtain ⟨v_130, ev_130⟩ : ∃ z : Int32, x_104 + Int32.ofInt (1) = z := ⟨_, rfl⟩
                        have hv_130 : v_130.toInt = x_104.toInt + (1) := by rw [← ev_130]; exact incE rfl (by decide) (by omega)
                        refine lv_iinc (pc := 118) (v := v_130) (lv' := [(3, .int v_130), (2, .int x_19), (0, .ref M), (1, .int z_n)]) E.1 E.2.1 dX12_goesFor_118 hl109 (k := 0) rfl ev_130 (by decide) rfl (fun ls hl131 => ?_)
                        refine lv_goto (pc := 121) (tgt := 45) E.1 E.2.1 dX12_goesFor_121 (by decide) ?_
                        exact ih_107 v_130 v_128 x_106 _ _ _ ⟨(by show 0 ≤ v_130.toInt; omega), (by show v_130.toInt ≤ (mi 44).toInt; omega)⟩ (by omega) hw129 (lv_sub hl131 [0, 1, 2, 3] rfl)
                      · skip
                        have hc_126 := eqE (a := x_106.toInt) (b := (-1)) rfl (by decide +kernel) c_126
                        refine lv_aload_n (pc := 101) E.1 E.2.1 dX12_goesFor_101 rfl (lv_at hl109 2 rfl) ?_
                        refine lv_iload_n (pc := 102) E.1 E.2.1 dX12_goesFor_102 rfl (lv_at hl109 0 rfl) ?_
                        refine x_put (pc := 103) (T := TX12) (N := 70) (ci := 12) (ws' := (MW cI cJ M mr (upd (upd (upd (upd mi 5 nisThought_8) 56 v_100) 57 x_105) 58 x_104) (va_up (va_up (va_up (va_up (va_up (va_up mf 1 gnow_47) 4 gwaiting_7) 16 gbook_51) 53 gasked_49) 54 gstack_50) 55 gfarOf_48) mg)) E hw108 inX12 tyX12_ok nmX12 0 58 q_1457 rfl rfl (by decide) rfl rfl rfl rfl (Nat.le_of_ble_eq_true rfl) rfl dX12_goesFor_103 (fun H locs hw132 => ?_)
                        refine lv_aload_n (pc := 106) E.1 E.2.1 dX12_goesFor_106 rfl (lv_at hl109 2 rfl) ?_
                        refine lv_aload_n (pc := 107) E.1 E.2.1 dX12_goesFor_107 rfl (lv_at hl109 2 rfl) ?_
                        refine x_get (pc := 108) (T := TX12) (N := 70) (ci := 12) (v := .int x_105) E hw132 inX12 0 57 q_1456 rfl rfl (by decide) rfl rfl dX12_goesFor_108 ?_
                        refine lv_iconst (pc := 111) (v := 1) E.1 E.2.1 dX12_goesFor_111 (by decide +kernel) ?_
                        refine lv_iload_n (pc := 112) E.1 E.2.1 dX12_goesFor_112 rfl (lv_at hl109 0 rfl) ?_
                        refine lv_ishl (pc := 113) E.1 E.2.1 dX12_goesFor_113 ?_
                        refine lv_topi (fun v_133 ev_133 => ?_)
                        have hb1v_133 : 1 ≤ v_133.toInt ∧ v_133.toInt ≤ 512 := by rw [ev_133]; exact shl9 (by omega)
                        refine lv_ior (pc := 114) E.1 E.2.1 dX12_goesFor_114 ?_
                        refine lv_topi (fun v_134 ev_134 => ?_)
                        refine x_put (pc := 115) (T := TX12) (N := 70) (ci := 12) (ws' := (MW cI cJ M mr (upd (upd (upd (upd mi 5 nisThought_8) 56 v_100) 57 v_134) 58 x_104) (va_up (va_up (va_up (va_up (va_up (va_up mf 1 gnow_47) 4 gwaiting_7) 16 gbook_51) 53 gasked_49) 54 gstack_50) 55 gfarOf_48) mg)) E hw132 inX12 tyX12_ok nmX12 0 57 q_1456 rfl rfl (by decide) rfl rfl rfl rfl (Nat.le_of_ble_eq_true rfl) rfl dX12_goesFor_115 (fun H locs hw135 => ?_)
                        obtain ⟨v_136, ev_136⟩ : ∃ z : Int32, x_104 + Int32.ofInt (1) = z := ⟨_, rfl⟩
                        have hv_136 : v_136.toInt = x_104.toInt + (1) := by rw [← ev_136]; exact incE rfl (by decide) (by omega)
                        refine lv_iinc (pc := 118) (v := v_136) (lv' := [(3, .int v_136), (2, .int x_19), (0, .ref M), (1, .int z_n)]) E.1 E.2.1 dX12_goesFor_118 hl109 (k := 0) rfl ev_136 (by decide) rfl (fun ls hl137 => ?_)
                        refine lv_goto (pc := 121) (tgt := 45) E.1 E.2.1 dX12_goesFor_121 (by decide) ?_
                        exact ih_107 v_136 v_134 x_104 _ _ _ ⟨(by show 0 ≤ v_136.toInt; omega), (by show v_136.toInt ≤ (mi 44).toInt; omega)⟩ (by omega) hw135 (lv_sub hl137 [0, 1, 2, 3] rfl)
                    · skip
                      have hc_125 := eqE (a := v_124.toInt) (b := 1) rfl (by decide +kernel) c_125
                      refine lv_goto (pc := 90) (tgt := 118) E.1 E.2.1 dX12_goesFor_90 (by decide) ?_
                      obtain ⟨v_138, ev_138⟩ : ∃ z : Int32, x_104 + Int32.ofInt (1) = z := ⟨_, rfl⟩
                      have hv_138 : v_138.toInt = x_104.toInt + (1) := by rw [← ev_138]; exact incE rfl (by decide) (by omega)
                      refine lv_iinc (pc := 118) (v := v_138) (lv' := [(3, .int v_138), (2, .int x_19), (0, .ref M), (1, .int z_n)]) E.1 E.2.1 dX12_goesFor_118 hl109 (k := 0) rfl ev_138 (by decide) rfl (fun ls hl139 => ?_)
                      refine lv_goto (pc := 121) (tgt := 45) E.1 E.2.1 dX12_goesFor_121 (by decide) ?_
                      exact ih_107 v_138 x_105 x_106 _ _ _ ⟨(by show 0 ≤ v_138.toInt; omega), (by show v_138.toInt ≤ (mi 44).toInt; omega)⟩ (by omega) hw108 (lv_sub hl139 [0, 1, 2, 3] rfl)
          exact loop_103 (Int.toNat ((mi 44).toInt - 0) + 1) 0 x_21 x_22 _ _ _ ⟨(by show 0 ≤ (0 : Int32).toInt; have k_0 : (0 : Int32).toInt = 0 := (by decide +kernel); omega), (by show (0 : Int32).toInt ≤ (mi 44).toInt; have k_0 : (0 : Int32).toInt = 0 := (by decide +kernel); omega)⟩ (by have k_0 : (0 : Int32).toInt = 0 := (by decide +kernel); omega) hw101 (lv_sub hl102 [0, 1, 2, 3] rfl)
  exact loop_18 (Int.toNat (z_n.toInt - 0) + 1) 0 0 0 (-1) (mf 1) (mf 55) (mf 53) (mf 54) (mf 16) _ _ _ ⟨(by show 0 ≤ (0 : Int32).toInt; have k_0 : (0 : Int32).toInt = 0 := (by decide +kernel); omega), (by show (0 : Int32).toInt ≤ z_n.toInt; have k_0 : (0 : Int32).toInt = 0 := (by decide +kernel); omega), h3.1, h3.2, h0, h1, h4.1, h4.2⟩ (by have k_0 : (0 : Int32).toInt = 0 := (by decide +kernel); have k_1 : (0 : Int32).toInt = 0 := (by decide +kernel); have k_2 : (0 : Int32).toInt = 0 := (by decide +kernel); have k_3 : ((-1) : Int32).toInt = -1 := (by decide +kernel); omega) hw16 (lv_sub hl17 [0, 1, 2] rfl)

set_option maxHeartbeats 4000000 in
set_option maxRecDepth 100000 in
theorem s_run (l : Launch) (D : va_G) (cI cJ : ClassId) (sz M : Nat) (mr : Nat → Nat) (mi : Nat → Int32) (mf : Nat → Nat → Int32) (mg : Nat → Nat → Int64) (z_n : Int32) (z_what : Int32) (h0 : 0 ≤ (mi 6).toInt ∧ (mi 6).toInt ≤ 10) (h1 : 0 ≤ ((mf 1) 2).toInt ∧ ((mf 1) 2).toInt ≤ 150) (h2 : 0 ≤ ((mf 1) 3).toInt ∧ ((mf 1) 3).toInt ≤ 9) (h3 : 0 ≤ ((mf 1) 5).toInt ∧ ((mf 1) 5).toInt ≤ 200) (h4 : 0 ≤ (mi 44).toInt ∧ (mi 44).toInt ≤ 10) (h5 : 0 ≤ (mi 42).toInt ∧ (mi 42).toInt ≤ 40) (h6 : 0 ≤ ((mf 27) 0).toInt) (h7 : ((mf 27) 0).toInt ≤ 16) (h8 : 0 ≤ ((mf 27) 1).toInt) (h9 : ((mf 27) 1).toInt ≤ 16) (h10 : 0 ≤ (mi 49).toInt ∧ (mi 49).toInt ≤ 200) (h11 : (-29) ≤ (mi 15).toInt ∧ (mi 15).toInt ≤ 69) (a_paths : pathsOK (mf 43)) (lf_law0 : LW 0 0 (mf 31) (mf 32) (mf 28) (mf 29) (mf 30) ((mf 27) 0).toInt 400) (lf_law1 : LW 16 400 (mf 31) (mf 32) (mf 28) (mf 29) (mf 30) ((mf 27) 1).toInt 400) (lf_round : rndOK (mi 49).toInt (mi 6).toInt (mf 50)) (lf_lamp : (((mi 6).toInt = 0 ∧ ((mf 1) 3).toInt = 0) ∨ ((mf 1) 3).toInt < (mi 6).toInt)) : Met l yX12_run (Cond.code yX12_run cX12_run 4 (some .int) :: GW) ({ frames := 9, cells := 0, slots := 0, locals := 224 } : Room) (va_Pc [.ref M, .int z_n, .int z_what] (PW D cI cJ sz (MW cI cJ M mr mi mf mg) xT)) (va_Qi (fun (r : Int32) (u : Int32 × (Nat → Int32) × (Nat → Int32) × Int32 × Int32 × Int32 × Int32 × (Nat → Int32) × (Nat → Int32) × (Nat → Int32) × (Nat → Int32)) => ((u.2.1 2).toInt = ((mf 1) 2).toInt) ∧ ((u.2.1 3).toInt = ((mf 1) 3).toInt) ∧ ((u.2.1 5).toInt = ((mf 1) 5).toInt)) (fun u => QW D cI cJ (va_A (MW cI cJ M mr mi mf mg) sz) ((fun (u : Int32 × (Nat → Int32) × (Nat → Int32) × Int32 × Int32 × Int32 × Int32 × (Nat → Int32) × (Nat → Int32) × (Nat → Int32) × (Nat → Int32)) => (MW cI cJ M mr (upd (upd (upd (upd (upd mi 0 u.1) 5 u.2.2.2.1) 56 u.2.2.2.2.1) 57 u.2.2.2.2.2.1) 58 u.2.2.2.2.2.2.1) (va_up (va_up (va_up (va_up (va_up (va_up mf 1 u.2.1) 4 u.2.2.1) 55 u.2.2.2.2.2.2.2.1) 53 u.2.2.2.2.2.2.2.2.1) 54 u.2.2.2.2.2.2.2.2.2.1) 16 u.2.2.2.2.2.2.2.2.2.2) mg)) u)) (va_A (MW cI cJ M mr mi mf mg) sz)) 0 0 (va_A (MW cI cJ M mr mi mf mg) sz) := by
  refine mk_met (y := yX12_run) (bytes := cX12_run) (maxL := 4) (avs := [.ref M, .int z_n, .int z_what]) (WS := (MW cI cJ M mr mi mf mg)) (Qf := fun A => va_Qi (fun (r : Int32) (u : Int32 × (Nat → Int32) × (Nat → Int32) × Int32 × Int32 × Int32 × Int32 × (Nat → Int32) × (Nat → Int32) × (Nat → Int32) × (Nat → Int32)) => ((u.2.1 2).toInt = ((mf 1) 2).toInt) ∧ ((u.2.1 3).toInt = ((mf 1) 3).toInt) ∧ ((u.2.1 5).toInt = ((mf 1) 5).toInt)) (fun u => QW D cI cJ A ((fun (u : Int32 × (Nat → Int32) × (Nat → Int32) × Int32 × Int32 × Int32 × Int32 × (Nat → Int32) × (Nat → Int32) × (Nat → Int32) × (Nat → Int32)) => (MW cI cJ M mr (upd (upd (upd (upd (upd mi 0 u.1) 5 u.2.2.2.1) 56 u.2.2.2.2.1) 57 u.2.2.2.2.2.1) 58 u.2.2.2.2.2.2.1) (va_up (va_up (va_up (va_up (va_up (va_up mf 1 u.2.1) 4 u.2.2.1) 55 u.2.2.2.2.2.2.2.1) 53 u.2.2.2.2.2.2.2.2.1) 54 u.2.2.2.2.2.2.2.2.2.1) 16 u.2.2.2.2.2.2.2.2.2.2) mg)) u)) A) (by decide) (Nat.le_of_ble_eq_true rfl) ?_
  intro p e s m below meth c A ls E hr hlk hnm hX hw1 hl2
  have hl3 : lv_has ls 4 [(0, .ref M), (1, .int z_n), (2, .int z_what)] := hl2
  refine lv_aload_n (pc := 0) E.1 E.2.1 dX12_run_0 rfl (lv_at hl3 0 rfl) ?_
  refine lv_iconst (pc := 1) (v := 0) E.1 E.2.1 dX12_run_1 (by decide +kernel) ?_
  refine x_put (pc := 2) (T := TX12) (N := 70) (ci := 12) (ws' := (MW cI cJ M mr (upd mi 0 0) mf mg)) E hw1 inX12 tyX12_ok nmX12 0 0 q_1399 rfl rfl (by decide) rfl rfl rfl rfl (Nat.le_of_ble_eq_true rfl) rfl dX12_run_2 (fun H locs hw4 => ?_)
  refine lv_aload_n (pc := 5) E.1 E.2.1 dX12_run_5 rfl (lv_at hl3 0 rfl) ?_
  refine lv_iload_n (pc := 6) E.1 E.2.1 dX12_run_6 rfl (lv_at hl3 1 rfl) ?_
  refine lv_iconst (pc := 7) (v := 1) E.1 E.2.1 dX12_run_7 (by decide +kernel) ?_
  refine lv_bipush (pc := 8) (v := 99) E.1 E.2.1 dX12_run_8 (by decide +kernel) ?_
  refine cm_i (pc := 10) hw4 (rn_M (As := [.int z_n, .int 1, .int 99]) (rest := []) E hw4 (s_isIn l D cI cJ _ M mr (upd mi 0 0) mf mg z_n 1 99) (gdV q_1622 q_1624 q_46 q_162 q_1625) hdV_X12_isIn ⟨rfl, rfl⟩ ⟨(Nat.le_of_ble_eq_true rfl), (Nat.le_of_ble_eq_true rfl)⟩ ⟨(Nat.le_of_ble_eq_true rfl), (Nat.le_of_ble_eq_true rfl)⟩ 12 rfl rfl rfl rfl hl3.1 rfl (Nat.le_of_ble_eq_true rfl) dX12_run_10) (fun r_6 u_5 H1 locs hp hw7 => ?_)
  generalize H1 = H at hw7 ⊢
  have hw8 : WD D A s.heap (MW cI cJ M mr (upd mi 0 0) mf mg) H locs := hw7
  have hp_9 := hp
  rcases hp_9 with ⟨rfl, ha_10⟩ | ⟨rfl, ha_11⟩ | ⟨rfl, ha_12, ha_13⟩
  · skip
    have ha_10 : z_n.toInt < (1 : Int32).toInt := ha_10
    rw [show (1 : Int32).toInt = 1 from by decide +kernel] at ha_10
    refine lv_if_eq (pc := 13) (tgt := 33) E.1 E.2.1 dX12_run_13 (by decide) (fun _ => ?_) (fun c_14 => absurd (meqE (a := 0) (b := 0) (by decide +kernel) (by decide +kernel) (by omega)) c_14)
    refine lv_iconst (pc := 33) (v := (-1)) E.1 E.2.1 dX12_run_33 (by decide +kernel) ?_
    exact em_i (w1 := (fun (u : Int32 × (Nat → Int32) × (Nat → Int32) × Int32 × Int32 × Int32 × Int32 × (Nat → Int32) × (Nat → Int32) × (Nat → Int32) × (Nat → Int32)) => (MW cI cJ M mr (upd (upd (upd (upd (upd mi 0 u.1) 5 u.2.2.2.1) 56 u.2.2.2.2.1) 57 u.2.2.2.2.2.1) 58 u.2.2.2.2.2.2.1) (va_up (va_up (va_up (va_up (va_up (va_up mf 1 u.2.1) 4 u.2.2.1) 55 u.2.2.2.2.2.2.2.1) 53 u.2.2.2.2.2.2.2.2.1) 54 u.2.2.2.2.2.2.2.2.2.1) 16 u.2.2.2.2.2.2.2.2.2.2) mg))) E hr hlk (0, (mf 1), (mf 4), (mi 5), (mi 56), (mi 57), (mi 58), (mf 55), (mf 53), (mf 54), (mf 16)) hw8 ⟨rfl, rfl, rfl⟩ (Nat.le_of_ble_eq_true rfl) (Nat.le_of_ble_eq_true rfl) dX12_run_34
  · skip
    have ha_11 : (99 : Int32).toInt < z_n.toInt := ha_11
    rw [show (99 : Int32).toInt = 99 from by decide +kernel] at ha_11
    refine lv_if_eq (pc := 13) (tgt := 33) E.1 E.2.1 dX12_run_13 (by decide) (fun _ => ?_) (fun c_15 => absurd (meqE (a := 0) (b := 0) (by decide +kernel) (by decide +kernel) (by omega)) c_15)
    refine lv_iconst (pc := 33) (v := (-1)) E.1 E.2.1 dX12_run_33 (by decide +kernel) ?_
    exact em_i (w1 := (fun (u : Int32 × (Nat → Int32) × (Nat → Int32) × Int32 × Int32 × Int32 × Int32 × (Nat → Int32) × (Nat → Int32) × (Nat → Int32) × (Nat → Int32)) => (MW cI cJ M mr (upd (upd (upd (upd (upd mi 0 u.1) 5 u.2.2.2.1) 56 u.2.2.2.2.1) 57 u.2.2.2.2.2.1) 58 u.2.2.2.2.2.2.1) (va_up (va_up (va_up (va_up (va_up (va_up mf 1 u.2.1) 4 u.2.2.1) 55 u.2.2.2.2.2.2.2.1) 53 u.2.2.2.2.2.2.2.2.1) 54 u.2.2.2.2.2.2.2.2.2.1) 16 u.2.2.2.2.2.2.2.2.2.2) mg))) E hr hlk (0, (mf 1), (mf 4), (mi 5), (mi 56), (mi 57), (mi 58), (mf 55), (mf 53), (mf 54), (mf 16)) hw8 ⟨rfl, rfl, rfl⟩ (Nat.le_of_ble_eq_true rfl) (Nat.le_of_ble_eq_true rfl) dX12_run_34
  · skip
    have ha_12 : (1 : Int32).toInt ≤ z_n.toInt := ha_12
    rw [show (1 : Int32).toInt = 1 from by decide +kernel] at ha_12
    have ha_13 : z_n.toInt ≤ (99 : Int32).toInt := ha_13
    rw [show (99 : Int32).toInt = 99 from by decide +kernel] at ha_13
    refine lv_if_eq (pc := 13) (tgt := 33) E.1 E.2.1 dX12_run_13 (by decide) (fun c_16 => absurd c_16 (mneE (a := 1) (b := 0) (by decide +kernel) (by decide +kernel) (by omega))) (fun _ => ?_)
    refine lv_aload_n (pc := 16) E.1 E.2.1 dX12_run_16 rfl (lv_at hl3 0 rfl) ?_
    refine x_get (pc := 17) (T := TX12) (N := 70) (ci := 12) (v := .int (mi 6)) E hw8 inX12 0 6 q_1405 rfl rfl (by decide) rfl rfl dX12_run_17 ?_
    refine lv_if_eq (pc := 20) (tgt := 33) E.1 E.2.1 dX12_run_20 (by decide) (fun c_17 => ?_) (fun c_17 => ?_)
    · skip
      have hc_17 := eqE (a := (mi 6).toInt) (b := 0) rfl (by decide +kernel) c_17
      refine lv_iconst (pc := 33) (v := (-1)) E.1 E.2.1 dX12_run_33 (by decide +kernel) ?_
      exact em_i (w1 := (fun (u : Int32 × (Nat → Int32) × (Nat → Int32) × Int32 × Int32 × Int32 × Int32 × (Nat → Int32) × (Nat → Int32) × (Nat → Int32) × (Nat → Int32)) => (MW cI cJ M mr (upd (upd (upd (upd (upd mi 0 u.1) 5 u.2.2.2.1) 56 u.2.2.2.2.1) 57 u.2.2.2.2.2.1) 58 u.2.2.2.2.2.2.1) (va_up (va_up (va_up (va_up (va_up (va_up mf 1 u.2.1) 4 u.2.2.1) 55 u.2.2.2.2.2.2.2.1) 53 u.2.2.2.2.2.2.2.2.1) 54 u.2.2.2.2.2.2.2.2.2.1) 16 u.2.2.2.2.2.2.2.2.2.2) mg))) E hr hlk (0, (mf 1), (mf 4), (mi 5), (mi 56), (mi 57), (mi 58), (mf 55), (mf 53), (mf 54), (mf 16)) hw8 ⟨rfl, rfl, rfl⟩ (Nat.le_of_ble_eq_true rfl) (Nat.le_of_ble_eq_true rfl) dX12_run_34
    · skip
      have hc_17 := neE (a := (mi 6).toInt) (b := 0) rfl (by decide +kernel) c_17
      refine lv_aload_n (pc := 23) E.1 E.2.1 dX12_run_23 rfl (lv_at hl3 0 rfl) ?_
      refine lv_iload_n (pc := 24) E.1 E.2.1 dX12_run_24 rfl (lv_at hl3 2 rfl) ?_
      refine lv_iconst (pc := 25) (v := 0) E.1 E.2.1 dX12_run_25 (by decide +kernel) ?_
      refine lv_iconst (pc := 26) (v := 3) E.1 E.2.1 dX12_run_26 (by decide +kernel) ?_
      refine cm_i (pc := 27) hw8 (rn_M (As := [.int z_what, .int 0, .int 3]) (rest := []) E hw8 (s_isIn l D cI cJ _ M mr (upd mi 0 0) mf mg z_what 0 3) (gdV q_1622 q_1624 q_46 q_162 q_1625) hdV_X12_isIn ⟨rfl, rfl⟩ ⟨(Nat.le_of_ble_eq_true rfl), (Nat.le_of_ble_eq_true rfl)⟩ ⟨(Nat.le_of_ble_eq_true rfl), (Nat.le_of_ble_eq_true rfl)⟩ 12 rfl rfl rfl rfl hl3.1 rfl (Nat.le_of_ble_eq_true rfl) dX12_run_27) (fun r_19 u_18 H1 locs hp hw20 => ?_)
      generalize H1 = H at hw20 ⊢
      have hw21 : WD D A s.heap (MW cI cJ M mr (upd mi 0 0) mf mg) H locs := hw20
      have hp_22 := hp
      rcases hp_22 with ⟨rfl, ha_23⟩ | ⟨rfl, ha_24⟩ | ⟨rfl, ha_25, ha_26⟩
      · skip
        have ha_23 : z_what.toInt < (0 : Int32).toInt := ha_23
        rw [show (0 : Int32).toInt = 0 from by decide +kernel] at ha_23
        refine lv_if_ne (pc := 30) (tgt := 35) E.1 E.2.1 dX12_run_30 (by decide) (fun c_27 => absurd (meqE (a := 0) (b := 0) (by decide +kernel) (by decide +kernel) (by omega)) c_27) (fun _ => ?_)
        refine lv_iconst (pc := 33) (v := (-1)) E.1 E.2.1 dX12_run_33 (by decide +kernel) ?_
        exact em_i (w1 := (fun (u : Int32 × (Nat → Int32) × (Nat → Int32) × Int32 × Int32 × Int32 × Int32 × (Nat → Int32) × (Nat → Int32) × (Nat → Int32) × (Nat → Int32)) => (MW cI cJ M mr (upd (upd (upd (upd (upd mi 0 u.1) 5 u.2.2.2.1) 56 u.2.2.2.2.1) 57 u.2.2.2.2.2.1) 58 u.2.2.2.2.2.2.1) (va_up (va_up (va_up (va_up (va_up (va_up mf 1 u.2.1) 4 u.2.2.1) 55 u.2.2.2.2.2.2.2.1) 53 u.2.2.2.2.2.2.2.2.1) 54 u.2.2.2.2.2.2.2.2.2.1) 16 u.2.2.2.2.2.2.2.2.2.2) mg))) E hr hlk (0, (mf 1), (mf 4), (mi 5), (mi 56), (mi 57), (mi 58), (mf 55), (mf 53), (mf 54), (mf 16)) hw21 ⟨rfl, rfl, rfl⟩ (Nat.le_of_ble_eq_true rfl) (Nat.le_of_ble_eq_true rfl) dX12_run_34
      · skip
        have ha_24 : (3 : Int32).toInt < z_what.toInt := ha_24
        rw [show (3 : Int32).toInt = 3 from by decide +kernel] at ha_24
        refine lv_if_ne (pc := 30) (tgt := 35) E.1 E.2.1 dX12_run_30 (by decide) (fun c_28 => absurd (meqE (a := 0) (b := 0) (by decide +kernel) (by decide +kernel) (by omega)) c_28) (fun _ => ?_)
        refine lv_iconst (pc := 33) (v := (-1)) E.1 E.2.1 dX12_run_33 (by decide +kernel) ?_
        exact em_i (w1 := (fun (u : Int32 × (Nat → Int32) × (Nat → Int32) × Int32 × Int32 × Int32 × Int32 × (Nat → Int32) × (Nat → Int32) × (Nat → Int32) × (Nat → Int32)) => (MW cI cJ M mr (upd (upd (upd (upd (upd mi 0 u.1) 5 u.2.2.2.1) 56 u.2.2.2.2.1) 57 u.2.2.2.2.2.1) 58 u.2.2.2.2.2.2.1) (va_up (va_up (va_up (va_up (va_up (va_up mf 1 u.2.1) 4 u.2.2.1) 55 u.2.2.2.2.2.2.2.1) 53 u.2.2.2.2.2.2.2.2.1) 54 u.2.2.2.2.2.2.2.2.2.1) 16 u.2.2.2.2.2.2.2.2.2.2) mg))) E hr hlk (0, (mf 1), (mf 4), (mi 5), (mi 56), (mi 57), (mi 58), (mf 55), (mf 53), (mf 54), (mf 16)) hw21 ⟨rfl, rfl, rfl⟩ (Nat.le_of_ble_eq_true rfl) (Nat.le_of_ble_eq_true rfl) dX12_run_34
      · skip
        have ha_25 : (0 : Int32).toInt ≤ z_what.toInt := ha_25
        rw [show (0 : Int32).toInt = 0 from by decide +kernel] at ha_25
        have ha_26 : z_what.toInt ≤ (3 : Int32).toInt := ha_26
        rw [show (3 : Int32).toInt = 3 from by decide +kernel] at ha_26
        refine lv_if_ne (pc := 30) (tgt := 35) E.1 E.2.1 dX12_run_30 (by decide) (fun _ => ?_) (fun c_29 => absurd c_29 (mneE (a := 1) (b := 0) (by decide +kernel) (by decide +kernel) (by omega)))
        have hlamp_30 : ((mf 1) 3).toInt + 1 ≤ (mi 6).toInt := by have q := lf_lamp; omega
        refine lv_aload_n (pc := 35) E.1 E.2.1 dX12_run_35 rfl (lv_at hl3 0 rfl) ?_
        refine lv_iload_n (pc := 36) E.1 E.2.1 dX12_run_36 rfl (lv_at hl3 1 rfl) ?_
        refine cm_i (pc := 37) hw21 (rn_M (As := [.int z_n]) (rest := []) E hw21 (s_goesFor l D cI cJ _ M mr (upd mi 0 0) mf mg z_n h2.1 (by show ((mf 1) 3).toInt + 1 ≤ (mi 6).toInt; omega) h0.2 h1 h3 h4 h5 h6 h7 h8 h9 h10 h11 (by show 1 ≤ z_n.toInt ∧ z_n.toInt ≤ 99; omega) a_paths (show LW 0 0 (mf 31) (mf 32) (mf 28) (mf 29) (mf 30) ((mf 27) 0).toInt 400 from lf_law0) (show LW 16 400 (mf 31) (mf 32) (mf 28) (mf 29) (mf 30) ((mf 27) 1).toInt 400 from lf_law1) (show rndOK (mi 49).toInt (mi 6).toInt (mf 50) from lf_round)) (gdV q_1974 q_1976 q_121 q_162 q_1977) hdV_X12_goesFor ⟨rfl, rfl⟩ ⟨(Nat.le_of_ble_eq_true rfl), (Nat.le_of_ble_eq_true rfl)⟩ ⟨(Nat.le_of_ble_eq_true rfl), (Nat.le_of_ble_eq_true rfl)⟩ 12 rfl rfl rfl rfl hl3.1 rfl (Nat.le_of_ble_eq_true rfl) dX12_run_37) (fun r_32 u_31 H1 locs hp hw33 => ?_)
        obtain ⟨gnow_34, gwaiting_35, nisThought_36, nrunDark_37, nrunSpoilt_38, nrunFirst_39, gfarOf_40, gasked_41, gstack_42, gbook_43⟩ := u_31
        generalize H1 = H at hw33 ⊢
        have hw44 : WD D A s.heap (MW cI cJ M mr (upd (upd (upd (upd (upd mi 0 0) 5 nisThought_36) 56 nrunDark_37) 57 nrunSpoilt_38) 58 nrunFirst_39) (va_up (va_up (va_up (va_up (va_up (va_up mf 1 gnow_34) 4 gwaiting_35) 16 gbook_43) 53 gasked_41) 54 gstack_42) 55 gfarOf_40) mg) H locs := hw33
        obtain ⟨hp_45, hp_46, hp_47, hp_48⟩ := hp
        have hp_45 : (gnow_34 2).toInt = ((mf 1) 2).toInt := hp_45
        have hp_46 : (gnow_34 3).toInt = ((mf 1) 3).toInt := hp_46
        have hp_47 : (gnow_34 5).toInt = ((mf 1) 5).toInt := hp_47
        have hp_48 : nisThought_36.toInt = 0 := hp_48
        refine lv_istore_n (pc := 40) (lv' := [(3, .int r_32), (0, .ref M), (1, .int z_n), (2, .int z_what)]) E.1 E.2.1 dX12_run_40 rfl hl3 (by decide) rfl (fun ls hl49 => ?_)
        refine lv_iload_n (pc := 41) E.1 E.2.1 dX12_run_41 rfl (lv_at hl49 3 rfl) ?_
        refine lv_if_ne (pc := 42) (tgt := 49) E.1 E.2.1 dX12_run_42 (by decide) (fun c_50 => ?_) (fun c_50 => ?_)
        · skip
          have hc_50 := neE (a := z_what.toInt) (b := 0) rfl (by decide +kernel) c_50
          refine lv_iload_n (pc := 49) E.1 E.2.1 dX12_run_49 rfl (lv_at hl49 3 rfl) ?_
          refine lv_iconst (pc := 50) (v := 1) E.1 E.2.1 dX12_run_50 (by decide +kernel) ?_
          refine lv_icmp_ne (pc := 51) (tgt := 61) E.1 E.2.1 dX12_run_51 (by decide) (fun c_51 => ?_) (fun c_51 => ?_)
          · skip
            have hc_51 := neE (a := z_what.toInt) (b := 1) rfl (by decide +kernel) c_51
            refine lv_iload_n (pc := 61) E.1 E.2.1 dX12_run_61 rfl (lv_at hl49 3 rfl) ?_
            refine lv_iconst (pc := 62) (v := 2) E.1 E.2.1 dX12_run_62 (by decide +kernel) ?_
            refine lv_icmp_ne (pc := 63) (tgt := 73) E.1 E.2.1 dX12_run_63 (by decide) (fun c_52 => ?_) (fun c_52 => ?_)
            · skip
              have hc_52 := neE (a := z_what.toInt) (b := 2) rfl (by decide +kernel) c_52
              refine lv_aload_n (pc := 73) E.1 E.2.1 dX12_run_73 rfl (lv_at hl49 1 rfl) ?_
              refine x_get (pc := 74) (T := TX12) (N := 70) (ci := 12) (v := .int nrunFirst_39) E hw44 inX12 0 58 q_1457 rfl rfl (by decide) rfl rfl dX12_run_74 ?_
              exact em_i (w1 := (fun (u : Int32 × (Nat → Int32) × (Nat → Int32) × Int32 × Int32 × Int32 × Int32 × (Nat → Int32) × (Nat → Int32) × (Nat → Int32) × (Nat → Int32)) => (MW cI cJ M mr (upd (upd (upd (upd (upd mi 0 u.1) 5 u.2.2.2.1) 56 u.2.2.2.2.1) 57 u.2.2.2.2.2.1) 58 u.2.2.2.2.2.2.1) (va_up (va_up (va_up (va_up (va_up (va_up mf 1 u.2.1) 4 u.2.2.1) 55 u.2.2.2.2.2.2.2.1) 53 u.2.2.2.2.2.2.2.2.1) 54 u.2.2.2.2.2.2.2.2.2.1) 16 u.2.2.2.2.2.2.2.2.2.2) mg))) E hr hlk (0, gnow_34, gwaiting_35, nisThought_36, nrunDark_37, nrunSpoilt_38, nrunFirst_39, gfarOf_40, gasked_41, gstack_42, gbook_43) hw44 ⟨hp_45, hp_46, hp_47⟩ (Nat.le_of_ble_eq_true rfl) (Nat.le_of_ble_eq_true rfl) dX12_run_77
            · skip
              have hc_52 := eqE (a := z_what.toInt) (b := 2) rfl (by decide +kernel) c_52
              refine lv_aload_n (pc := 66) E.1 E.2.1 dX12_run_66 rfl (lv_at hl49 1 rfl) ?_
              refine x_get (pc := 67) (T := TX12) (N := 70) (ci := 12) (v := .int nrunSpoilt_38) E hw44 inX12 0 57 q_1456 rfl rfl (by decide) rfl rfl dX12_run_67 ?_
              refine lv_goto (pc := 70) (tgt := 77) E.1 E.2.1 dX12_run_70 (by decide) ?_
              exact em_i (w1 := (fun (u : Int32 × (Nat → Int32) × (Nat → Int32) × Int32 × Int32 × Int32 × Int32 × (Nat → Int32) × (Nat → Int32) × (Nat → Int32) × (Nat → Int32)) => (MW cI cJ M mr (upd (upd (upd (upd (upd mi 0 u.1) 5 u.2.2.2.1) 56 u.2.2.2.2.1) 57 u.2.2.2.2.2.1) 58 u.2.2.2.2.2.2.1) (va_up (va_up (va_up (va_up (va_up (va_up mf 1 u.2.1) 4 u.2.2.1) 55 u.2.2.2.2.2.2.2.1) 53 u.2.2.2.2.2.2.2.2.1) 54 u.2.2.2.2.2.2.2.2.2.1) 16 u.2.2.2.2.2.2.2.2.2.2) mg))) E hr hlk (0, gnow_34, gwaiting_35, nisThought_36, nrunDark_37, nrunSpoilt_38, nrunFirst_39, gfarOf_40, gasked_41, gstack_42, gbook_43) hw44 ⟨hp_45, hp_46, hp_47⟩ (Nat.le_of_ble_eq_true rfl) (Nat.le_of_ble_eq_true rfl) dX12_run_77
          · skip
            have hc_51 := eqE (a := z_what.toInt) (b := 1) rfl (by decide +kernel) c_51
            refine lv_aload_n (pc := 54) E.1 E.2.1 dX12_run_54 rfl (lv_at hl49 1 rfl) ?_
            refine x_get (pc := 55) (T := TX12) (N := 70) (ci := 12) (v := .int nrunDark_37) E hw44 inX12 0 56 q_1455 rfl rfl (by decide) rfl rfl dX12_run_55 ?_
            refine lv_goto (pc := 58) (tgt := 77) E.1 E.2.1 dX12_run_58 (by decide) ?_
            exact em_i (w1 := (fun (u : Int32 × (Nat → Int32) × (Nat → Int32) × Int32 × Int32 × Int32 × Int32 × (Nat → Int32) × (Nat → Int32) × (Nat → Int32) × (Nat → Int32)) => (MW cI cJ M mr (upd (upd (upd (upd (upd mi 0 u.1) 5 u.2.2.2.1) 56 u.2.2.2.2.1) 57 u.2.2.2.2.2.1) 58 u.2.2.2.2.2.2.1) (va_up (va_up (va_up (va_up (va_up (va_up mf 1 u.2.1) 4 u.2.2.1) 55 u.2.2.2.2.2.2.2.1) 53 u.2.2.2.2.2.2.2.2.1) 54 u.2.2.2.2.2.2.2.2.2.1) 16 u.2.2.2.2.2.2.2.2.2.2) mg))) E hr hlk (0, gnow_34, gwaiting_35, nisThought_36, nrunDark_37, nrunSpoilt_38, nrunFirst_39, gfarOf_40, gasked_41, gstack_42, gbook_43) hw44 ⟨hp_45, hp_46, hp_47⟩ (Nat.le_of_ble_eq_true rfl) (Nat.le_of_ble_eq_true rfl) dX12_run_77
        · skip
          have hc_50 := eqE (a := z_what.toInt) (b := 0) rfl (by decide +kernel) c_50
          refine lv_iload_n (pc := 45) E.1 E.2.1 dX12_run_45 rfl (lv_at hl49 0 rfl) ?_
          refine lv_goto (pc := 46) (tgt := 77) E.1 E.2.1 dX12_run_46 (by decide) ?_
          exact em_i (w1 := (fun (u : Int32 × (Nat → Int32) × (Nat → Int32) × Int32 × Int32 × Int32 × Int32 × (Nat → Int32) × (Nat → Int32) × (Nat → Int32) × (Nat → Int32)) => (MW cI cJ M mr (upd (upd (upd (upd (upd mi 0 u.1) 5 u.2.2.2.1) 56 u.2.2.2.2.1) 57 u.2.2.2.2.2.1) 58 u.2.2.2.2.2.2.1) (va_up (va_up (va_up (va_up (va_up (va_up mf 1 u.2.1) 4 u.2.2.1) 55 u.2.2.2.2.2.2.2.1) 53 u.2.2.2.2.2.2.2.2.1) 54 u.2.2.2.2.2.2.2.2.2.1) 16 u.2.2.2.2.2.2.2.2.2.2) mg))) E hr hlk (0, gnow_34, gwaiting_35, nisThought_36, nrunDark_37, nrunSpoilt_38, nrunFirst_39, gfarOf_40, gasked_41, gstack_42, gbook_43) hw44 ⟨hp_45, hp_46, hp_47⟩ (Nat.le_of_ble_eq_true rfl) (Nat.le_of_ble_eq_true rfl) dX12_run_77

set_option maxHeartbeats 4000000 in
set_option maxRecDepth 100000 in
theorem s_of (l : Launch) (D : va_G) (cI cJ : ClassId) (sz M : Nat) (mr : Nat → Nat) (mi : Nat → Int32) (mf : Nat → Nat → Int32) (mg : Nat → Nat → Int64) (z_house : Int32) (z_what : Int32) (h0 : 0 ≤ (mi 6).toInt ∧ (mi 6).toInt ≤ 10) (h1 : 0 ≤ ((mf 1) 2).toInt ∧ ((mf 1) 2).toInt ≤ 150) (h2 : 0 ≤ ((mf 1) 3).toInt ∧ ((mf 1) 3).toInt ≤ 9) (h3 : 0 ≤ ((mf 1) 5).toInt ∧ ((mf 1) 5).toInt ≤ 200) (h4 : 0 ≤ (mi 44).toInt ∧ (mi 44).toInt ≤ 10) (h5 : 0 ≤ (mi 42).toInt ∧ (mi 42).toInt ≤ 40) (h6 : 0 ≤ ((mf 27) 0).toInt) (h7 : ((mf 27) 0).toInt ≤ 16) (h8 : 0 ≤ ((mf 27) 1).toInt) (h9 : ((mf 27) 1).toInt ≤ 16) (h10 : 0 ≤ (mi 49).toInt ∧ (mi 49).toInt ≤ 200) (h11 : (-29) ≤ (mi 15).toInt ∧ (mi 15).toInt ≤ 69) (a_paths : pathsOK (mf 43)) (lf_law0 : LW 0 0 (mf 31) (mf 32) (mf 28) (mf 29) (mf 30) ((mf 27) 0).toInt 400) (lf_law1 : LW 16 400 (mf 31) (mf 32) (mf 28) (mf 29) (mf 30) ((mf 27) 1).toInt 400) : Met l yX12_of (Cond.code yX12_of cX12_of 3 (some .int) :: GW) ({ frames := 6, cells := 0, slots := 0, locals := 151 } : Room) (va_Pc [.ref M, .int z_house, .int z_what] (PW D cI cJ sz (MW cI cJ M mr mi mf mg) xT)) (va_Qi (fun (r : Int32) (u : Int32 × (Nat → Int32) × (Nat → Int32) × (Nat → Int32)) => True) (fun u => QW D cI cJ (va_A (MW cI cJ M mr mi mf mg) sz) ((fun (u : Int32 × (Nat → Int32) × (Nat → Int32) × (Nat → Int32)) => (MW cI cJ M mr (upd mi 0 u.1) (va_up (va_up (va_up mf 55 u.2.1) 53 u.2.2.1) 54 u.2.2.2) mg)) u)) (va_A (MW cI cJ M mr mi mf mg) sz)) 0 0 (va_A (MW cI cJ M mr mi mf mg) sz) := by
  refine mk_met (y := yX12_of) (bytes := cX12_of) (maxL := 3) (avs := [.ref M, .int z_house, .int z_what]) (WS := (MW cI cJ M mr mi mf mg)) (Qf := fun A => va_Qi (fun (r : Int32) (u : Int32 × (Nat → Int32) × (Nat → Int32) × (Nat → Int32)) => True) (fun u => QW D cI cJ A ((fun (u : Int32 × (Nat → Int32) × (Nat → Int32) × (Nat → Int32)) => (MW cI cJ M mr (upd mi 0 u.1) (va_up (va_up (va_up mf 55 u.2.1) 53 u.2.2.1) 54 u.2.2.2) mg)) u)) A) (by decide) (Nat.le_of_ble_eq_true rfl) ?_
  intro p e s m below meth c A ls E hr hlk hnm hX hw1 hl2
  have hl3 : lv_has ls 3 [(0, .ref M), (1, .int z_house), (2, .int z_what)] := hl2
  refine lv_aload_n (pc := 0) E.1 E.2.1 dX12_of_0 rfl (lv_at hl3 0 rfl) ?_
  refine lv_iconst (pc := 1) (v := 0) E.1 E.2.1 dX12_of_1 (by decide +kernel) ?_
  refine x_put (pc := 2) (T := TX12) (N := 70) (ci := 12) (ws' := (MW cI cJ M mr (upd mi 0 0) mf mg)) E hw1 inX12 tyX12_ok nmX12 0 0 q_1399 rfl rfl (by decide) rfl rfl rfl rfl (Nat.le_of_ble_eq_true rfl) rfl dX12_of_2 (fun H locs hw4 => ?_)
  refine lv_aload_n (pc := 5) E.1 E.2.1 dX12_of_5 rfl (lv_at hl3 0 rfl) ?_
  refine lv_iload_n (pc := 6) E.1 E.2.1 dX12_of_6 rfl (lv_at hl3 1 rfl) ?_
  refine cm_i (pc := 7) hw4 (rn_M (As := [.int z_house]) (rest := []) E hw4 (s_isHouse l D cI cJ _ M mr (upd mi 0 0) mf mg z_house) (gdV q_1634 q_1636 q_48 q_162 q_1637) hdV_X12_isHouse ⟨rfl, rfl⟩ ⟨(Nat.le_of_ble_eq_true rfl), (Nat.le_of_ble_eq_true rfl)⟩ ⟨(Nat.le_of_ble_eq_true rfl), (Nat.le_of_ble_eq_true rfl)⟩ 12 rfl rfl rfl rfl hl3.1 rfl (Nat.le_of_ble_eq_true rfl) dX12_of_7) (fun r_6 u_5 H1 locs hp hw7 => ?_)
  generalize H1 = H at hw7 ⊢
  have hw8 : WD D A s.heap (MW cI cJ M mr (upd mi 0 0) mf mg) H locs := hw7
  have hp_9 := hp
  rcases hp_9 with ⟨rfl, ha_10⟩ | ⟨rfl, ha_11⟩ | ⟨rfl, ha_12, ha_13⟩
  · skip
    have ha_10 : z_house.toInt < 0 := ha_10
    refine lv_if_ne (pc := 10) (tgt := 17) E.1 E.2.1 dX12_of_10 (by decide) (fun c_14 => absurd (meqE (a := 0) (b := 0) (by decide +kernel) (by decide +kernel) (by omega)) c_14) (fun _ => ?_)
    refine lv_ldcw (pc := 13) (v := (-1000000)) E.1 E.2.1 E.2.2.2.1 (E.2.2.2.2.1 _ q_1933) dX12_of_13 ?_
    exact em_i (w1 := (fun (u : Int32 × (Nat → Int32) × (Nat → Int32) × (Nat → Int32)) => (MW cI cJ M mr (upd mi 0 u.1) (va_up (va_up (va_up mf 55 u.2.1) 53 u.2.2.1) 54 u.2.2.2) mg))) E hr hlk (0, (mf 55), (mf 53), (mf 54)) hw8 trivial (Nat.le_of_ble_eq_true rfl) (Nat.le_of_ble_eq_true rfl) dX12_of_16
  · skip
    have ha_11 : (mi 6).toInt ≤ z_house.toInt := ha_11
    refine lv_if_ne (pc := 10) (tgt := 17) E.1 E.2.1 dX12_of_10 (by decide) (fun c_15 => absurd (meqE (a := 0) (b := 0) (by decide +kernel) (by decide +kernel) (by omega)) c_15) (fun _ => ?_)
    refine lv_ldcw (pc := 13) (v := (-1000000)) E.1 E.2.1 E.2.2.2.1 (E.2.2.2.2.1 _ q_1933) dX12_of_13 ?_
    exact em_i (w1 := (fun (u : Int32 × (Nat → Int32) × (Nat → Int32) × (Nat → Int32)) => (MW cI cJ M mr (upd mi 0 u.1) (va_up (va_up (va_up mf 55 u.2.1) 53 u.2.2.1) 54 u.2.2.2) mg))) E hr hlk (0, (mf 55), (mf 53), (mf 54)) hw8 trivial (Nat.le_of_ble_eq_true rfl) (Nat.le_of_ble_eq_true rfl) dX12_of_16
  · skip
    have ha_12 : 0 ≤ z_house.toInt := ha_12
    have ha_13 : z_house.toInt < (mi 6).toInt := ha_13
    refine lv_if_ne (pc := 10) (tgt := 17) E.1 E.2.1 dX12_of_10 (by decide) (fun _ => ?_) (fun c_16 => absurd c_16 (mneE (a := 1) (b := 0) (by decide +kernel) (by decide +kernel) (by omega)))
    refine lv_iload_n (pc := 17) E.1 E.2.1 dX12_of_17 rfl (lv_at hl3 2 rfl) ?_
    refine lv_if_ne (pc := 18) (tgt := 28) E.1 E.2.1 dX12_of_18 (by decide) (fun c_17 => ?_) (fun c_17 => ?_)
    · skip
      have hc_17 := neE (a := z_what.toInt) (b := 0) rfl (by decide +kernel) c_17
      refine lv_iload_n (pc := 28) E.1 E.2.1 dX12_of_28 rfl (lv_at hl3 2 rfl) ?_
      refine lv_iconst (pc := 29) (v := 1) E.1 E.2.1 dX12_of_29 (by decide +kernel) ?_
      refine lv_icmp_ne (pc := 30) (tgt := 40) E.1 E.2.1 dX12_of_30 (by decide) (fun c_18 => ?_) (fun c_18 => ?_)
      · skip
        have hc_18 := neE (a := z_what.toInt) (b := 1) rfl (by decide +kernel) c_18
        refine lv_iload_n (pc := 40) E.1 E.2.1 dX12_of_40 rfl (lv_at hl3 2 rfl) ?_
        refine lv_iconst (pc := 41) (v := 2) E.1 E.2.1 dX12_of_41 (by decide +kernel) ?_
        refine lv_icmp_ne (pc := 42) (tgt := 55) E.1 E.2.1 dX12_of_42 (by decide) (fun c_19 => ?_) (fun c_19 => ?_)
        · skip
          have hc_19 := neE (a := z_what.toInt) (b := 2) rfl (by decide +kernel) c_19
          refine lv_iload_n (pc := 55) E.1 E.2.1 dX12_of_55 rfl (lv_at hl3 2 rfl) ?_
          refine lv_iconst (pc := 56) (v := 3) E.1 E.2.1 dX12_of_56 (by decide +kernel) ?_
          refine lv_icmp_ne (pc := 57) (tgt := 70) E.1 E.2.1 dX12_of_57 (by decide) (fun c_20 => ?_) (fun c_20 => ?_)
          · skip
            have hc_20 := neE (a := z_what.toInt) (b := 3) rfl (by decide +kernel) c_20
            refine lv_iload_n (pc := 70) E.1 E.2.1 dX12_of_70 rfl (lv_at hl3 2 rfl) ?_
            refine lv_iconst (pc := 71) (v := 4) E.1 E.2.1 dX12_of_71 (by decide +kernel) ?_
            refine lv_icmp_ne (pc := 72) (tgt := 85) E.1 E.2.1 dX12_of_72 (by decide) (fun c_21 => ?_) (fun c_21 => ?_)
            · skip
              have hc_21 := neE (a := z_what.toInt) (b := 4) rfl (by decide +kernel) c_21
              refine lv_iload_n (pc := 85) E.1 E.2.1 dX12_of_85 rfl (lv_at hl3 2 rfl) ?_
              refine lv_iconst (pc := 86) (v := 5) E.1 E.2.1 dX12_of_86 (by decide +kernel) ?_
              refine lv_icmp_ne (pc := 87) (tgt := 102) E.1 E.2.1 dX12_of_87 (by decide) (fun c_22 => ?_) (fun c_22 => ?_)
              · skip
                have hc_22 := neE (a := z_what.toInt) (b := 5) rfl (by decide +kernel) c_22
                refine lv_iload_n (pc := 102) E.1 E.2.1 dX12_of_102 rfl (lv_at hl3 2 rfl) ?_
                refine lv_bipush (pc := 103) (v := 6) E.1 E.2.1 dX12_of_103 (by decide +kernel) ?_
                refine lv_icmp_ne (pc := 105) (tgt := 115) E.1 E.2.1 dX12_of_105 (by decide) (fun c_23 => ?_) (fun c_23 => ?_)
                · skip
                  have hc_23 := neE (a := z_what.toInt) (b := 6) rfl (by decide +kernel) c_23
                  refine lv_iload_n (pc := 115) E.1 E.2.1 dX12_of_115 rfl (lv_at hl3 2 rfl) ?_
                  refine lv_bipush (pc := 116) (v := 7) E.1 E.2.1 dX12_of_116 (by decide +kernel) ?_
                  refine lv_icmp_ne (pc := 118) (tgt := 128) E.1 E.2.1 dX12_of_118 (by decide) (fun c_24 => ?_) (fun c_24 => ?_)
                  · skip
                    have hc_24 := neE (a := z_what.toInt) (b := 7) rfl (by decide +kernel) c_24
                    refine lv_aload_n (pc := 128) E.1 E.2.1 dX12_of_128 rfl (lv_at hl3 0 rfl) ?_
                    refine lv_aload_n (pc := 129) E.1 E.2.1 dX12_of_129 rfl (lv_at hl3 0 rfl) ?_
                    refine x_get (pc := 130) (T := TX12) (N := 70) (ci := 12) (v := .ref (mr 1)) E hw8 inX12 0 1 q_1400 rfl rfl (by decide) rfl rfl dX12_of_130 ?_
                    refine lv_iconst (pc := 133) (v := 4) E.1 E.2.1 dX12_of_133 (by decide +kernel) ?_
                    refine x_iald (pc := 134) (f := (mf 1)) E hw8 1 rfl (inbE (a := 4) (by decide +kernel) (by omega)) dX12_of_134 ?_
                    refine lv_topi (fun v_25 ev_25 => ?_)
                    refine cm_v (pc := 135) hw8 (rn_M (As := [.int v_25]) (rest := []) E hw8 (s_findsFar l D cI cJ _ M mr (upd mi 0 0) mf mg v_25 h0 h5 a_paths) (gdV q_1822 q_1824 q_89 q_162 q_1825) hdV_X12_findsFar ⟨rfl, rfl⟩ ⟨(Nat.le_of_ble_eq_true rfl), (Nat.le_of_ble_eq_true rfl)⟩ ⟨(Nat.le_of_ble_eq_true rfl), (Nat.le_of_ble_eq_true rfl)⟩ 12 rfl rfl rfl rfl hl3.1 rfl (Nat.le_of_ble_eq_true rfl) dX12_of_135) (fun u_26 H1 locs hp hw28 => ?_)
                    obtain ⟨gfarOf_29, rfl⟩ : ∃ z, z = u_26 := ⟨_, rfl⟩
                    generalize H1 = H at hw28 ⊢
                    have hw30 : WD D A s.heap (MW cI cJ M mr (upd mi 0 0) (va_up mf 55 gfarOf_29) mg) H locs := hw28
                    refine lv_iload_n (pc := 138) E.1 E.2.1 dX12_of_138 rfl (lv_at hl3 2 rfl) ?_
                    refine lv_bipush (pc := 139) (v := 8) E.1 E.2.1 dX12_of_139 (by decide +kernel) ?_
                    refine lv_icmp_ne (pc := 141) (tgt := 150) E.1 E.2.1 dX12_of_141 (by decide) (fun c_31 => ?_) (fun c_31 => ?_)
                    · skip
                      have hc_31 := neE (a := z_what.toInt) (b := 8) rfl (by decide +kernel) c_31
                      refine lv_iload_n (pc := 150) E.1 E.2.1 dX12_of_150 rfl (lv_at hl3 2 rfl) ?_
                      refine lv_bipush (pc := 151) (v := 9) E.1 E.2.1 dX12_of_151 (by decide +kernel) ?_
                      refine lv_icmp_ne (pc := 153) (tgt := 162) E.1 E.2.1 dX12_of_153 (by decide) (fun c_32 => ?_) (fun c_32 => ?_)
                      · skip
                        have hc_32 := neE (a := z_what.toInt) (b := 9) rfl (by decide +kernel) c_32
                        refine lv_iload_n (pc := 162) E.1 E.2.1 dX12_of_162 rfl (lv_at hl3 2 rfl) ?_
                        refine lv_bipush (pc := 163) (v := 10) E.1 E.2.1 dX12_of_163 (by decide +kernel) ?_
                        refine lv_icmp_ne (pc := 165) (tgt := 175) E.1 E.2.1 dX12_of_165 (by decide) (fun c_33 => ?_) (fun c_33 => ?_)
                        · skip
                          have hc_33 := neE (a := z_what.toInt) (b := 10) rfl (by decide +kernel) c_33
                          refine lv_iload_n (pc := 175) E.1 E.2.1 dX12_of_175 rfl (lv_at hl3 2 rfl) ?_
                          refine lv_bipush (pc := 176) (v := 11) E.1 E.2.1 dX12_of_176 (by decide +kernel) ?_
                          refine lv_icmp_ne (pc := 178) (tgt := 187) E.1 E.2.1 dX12_of_178 (by decide) (fun c_34 => ?_) (fun c_34 => ?_)
                          · skip
                            have hc_34 := neE (a := z_what.toInt) (b := 11) rfl (by decide +kernel) c_34
                            refine lv_iload_n (pc := 187) E.1 E.2.1 dX12_of_187 rfl (lv_at hl3 2 rfl) ?_
                            refine lv_bipush (pc := 188) (v := 12) E.1 E.2.1 dX12_of_188 (by decide +kernel) ?_
                            refine lv_icmp_ne (pc := 190) (tgt := 201) E.1 E.2.1 dX12_of_190 (by decide) (fun c_35 => ?_) (fun c_35 => ?_)
                            · skip
                              have hc_35 := neE (a := z_what.toInt) (b := 12) rfl (by decide +kernel) c_35
                              refine lv_iload_n (pc := 201) E.1 E.2.1 dX12_of_201 rfl (lv_at hl3 2 rfl) ?_
                              refine lv_bipush (pc := 202) (v := 13) E.1 E.2.1 dX12_of_202 (by decide +kernel) ?_
                              refine lv_icmp_ne (pc := 204) (tgt := 215) E.1 E.2.1 dX12_of_204 (by decide) (fun c_36 => ?_) (fun c_36 => ?_)
                              · skip
                                have hc_36 := neE (a := z_what.toInt) (b := 13) rfl (by decide +kernel) c_36
                                refine lv_ldcw (pc := 215) (v := (-1000000)) E.1 E.2.1 E.2.2.2.1 (E.2.2.2.2.1 _ q_1933) dX12_of_215 ?_
                                exact em_i (w1 := (fun (u : Int32 × (Nat → Int32) × (Nat → Int32) × (Nat → Int32)) => (MW cI cJ M mr (upd mi 0 u.1) (va_up (va_up (va_up mf 55 u.2.1) 53 u.2.2.1) 54 u.2.2.2) mg))) E hr hlk (0, gfarOf_29, (mf 53), (mf 54)) hw30 trivial (Nat.le_of_ble_eq_true rfl) (Nat.le_of_ble_eq_true rfl) dX12_of_218
                              · skip
                                have hc_36 := eqE (a := z_what.toInt) (b := 13) rfl (by decide +kernel) c_36
                                refine lv_aload_n (pc := 207) E.1 E.2.1 dX12_of_207 rfl (lv_at hl3 0 rfl) ?_
                                refine lv_iload_n (pc := 208) E.1 E.2.1 dX12_of_208 rfl (lv_at hl3 1 rfl) ?_
                                refine cm_i (pc := 209) hw30 (rn_M (As := [.int z_house]) (rest := []) E hw30 (s_seenBy l D cI cJ _ M mr (upd mi 0 0) (va_up mf 55 gfarOf_29) mg z_house h0 (by show 0 ≤ z_house.toInt ∧ z_house.toInt ≤ 9; omega)) (gdV q_1946 q_1948 q_117 q_162 q_1949) hdV_X12_seenBy ⟨rfl, rfl⟩ ⟨(Nat.le_of_ble_eq_true rfl), (Nat.le_of_ble_eq_true rfl)⟩ ⟨(Nat.le_of_ble_eq_true rfl), (Nat.le_of_ble_eq_true rfl)⟩ 12 rfl rfl rfl rfl hl3.1 rfl (Nat.le_of_ble_eq_true rfl) dX12_of_209) (fun r_38 u_37 H1 locs hp hw39 => ?_)
                                generalize H1 = H at hw39 ⊢
                                have hw40 : WD D A s.heap (MW cI cJ M mr (upd mi 0 0) (va_up mf 55 gfarOf_29) mg) H locs := hw39
                                refine lv_goto (pc := 212) (tgt := 218) E.1 E.2.1 dX12_of_212 (by decide) ?_
                                exact em_i (w1 := (fun (u : Int32 × (Nat → Int32) × (Nat → Int32) × (Nat → Int32)) => (MW cI cJ M mr (upd mi 0 u.1) (va_up (va_up (va_up mf 55 u.2.1) 53 u.2.2.1) 54 u.2.2.2) mg))) E hr hlk (0, gfarOf_29, (mf 53), (mf 54)) hw40 trivial (Nat.le_of_ble_eq_true rfl) (Nat.le_of_ble_eq_true rfl) dX12_of_218
                            · skip
                              have hc_35 := eqE (a := z_what.toInt) (b := 12) rfl (by decide +kernel) c_35
                              refine lv_aload_n (pc := 193) E.1 E.2.1 dX12_of_193 rfl (lv_at hl3 0 rfl) ?_
                              refine lv_iload_n (pc := 194) E.1 E.2.1 dX12_of_194 rfl (lv_at hl3 1 rfl) ?_
                              refine cm_i (pc := 195) hw30 (rn_M (As := [.int z_house]) (rest := []) E hw30 (s_enviedBy l D cI cJ _ M mr (upd mi 0 0) (va_up mf 55 gfarOf_29) mg z_house h0 (by show 0 ≤ z_house.toInt ∧ z_house.toInt ≤ 9; omega)) (gdV q_1938 q_1940 q_115 q_162 q_1941) hdV_X12_enviedBy ⟨rfl, rfl⟩ ⟨(Nat.le_of_ble_eq_true rfl), (Nat.le_of_ble_eq_true rfl)⟩ ⟨(Nat.le_of_ble_eq_true rfl), (Nat.le_of_ble_eq_true rfl)⟩ 12 rfl rfl rfl rfl hl3.1 rfl (Nat.le_of_ble_eq_true rfl) dX12_of_195) (fun r_42 u_41 H1 locs hp hw43 => ?_)
                              generalize H1 = H at hw43 ⊢
                              have hw44 : WD D A s.heap (MW cI cJ M mr (upd mi 0 0) (va_up mf 55 gfarOf_29) mg) H locs := hw43
                              refine lv_goto (pc := 198) (tgt := 218) E.1 E.2.1 dX12_of_198 (by decide) ?_
                              exact em_i (w1 := (fun (u : Int32 × (Nat → Int32) × (Nat → Int32) × (Nat → Int32)) => (MW cI cJ M mr (upd mi 0 u.1) (va_up (va_up (va_up mf 55 u.2.1) 53 u.2.2.1) 54 u.2.2.2) mg))) E hr hlk (0, gfarOf_29, (mf 53), (mf 54)) hw44 trivial (Nat.le_of_ble_eq_true rfl) (Nat.le_of_ble_eq_true rfl) dX12_of_218
                          · skip
                            have hc_34 := eqE (a := z_what.toInt) (b := 11) rfl (by decide +kernel) c_34
                            refine lv_aload_n (pc := 181) E.1 E.2.1 dX12_of_181 rfl (lv_at hl3 0 rfl) ?_
                            refine lv_iload_n (pc := 182) E.1 E.2.1 dX12_of_182 rfl (lv_at hl3 1 rfl) ?_
                            refine cm_i (pc := 183) hw30 (rn_M (As := [.int z_house]) (rest := []) E hw30 (s_reachedFrom l D cI cJ _ M mr (upd mi 0 0) (va_up mf 55 gfarOf_29) mg z_house h0 (by show 0 ≤ z_house.toInt ∧ z_house.toInt ≤ 9; omega)) (gdV q_1934 q_1936 q_114 q_162 q_1937) hdV_X12_reachedFrom ⟨rfl, rfl⟩ ⟨(Nat.le_of_ble_eq_true rfl), (Nat.le_of_ble_eq_true rfl)⟩ ⟨(Nat.le_of_ble_eq_true rfl), (Nat.le_of_ble_eq_true rfl)⟩ 12 rfl rfl rfl rfl hl3.1 rfl (Nat.le_of_ble_eq_true rfl) dX12_of_183) (fun r_46 u_45 H1 locs hp hw47 => ?_)
                            generalize H1 = H at hw47 ⊢
                            have hw48 : WD D A s.heap (MW cI cJ M mr (upd mi 0 0) (va_up mf 55 gfarOf_29) mg) H locs := hw47
                            exact em_i (w1 := (fun (u : Int32 × (Nat → Int32) × (Nat → Int32) × (Nat → Int32)) => (MW cI cJ M mr (upd mi 0 u.1) (va_up (va_up (va_up mf 55 u.2.1) 53 u.2.2.1) 54 u.2.2.2) mg))) E hr hlk (0, gfarOf_29, (mf 53), (mf 54)) hw48 trivial (Nat.le_of_ble_eq_true rfl) (Nat.le_of_ble_eq_true rfl) dX12_of_186
                        · skip
                          have hc_33 := eqE (a := z_what.toInt) (b := 10) rfl (by decide +kernel) c_33
                          refine lv_aload_n (pc := 168) E.1 E.2.1 dX12_of_168 rfl (lv_at hl3 0 rfl) ?_
                          refine x_get (pc := 169) (T := TX12) (N := 70) (ci := 12) (v := .ref (mr 11)) E hw30 inX12 0 11 q_1410 rfl rfl (by decide) rfl rfl dX12_of_169 ?_
                          refine lv_iload_n (pc := 172) E.1 E.2.1 dX12_of_172 rfl (lv_at hl3 1 rfl) ?_
                          refine x_iald (pc := 173) (f := (mf 11)) E hw30 8 rfl (inbE (a := z_house.toInt) rfl (by omega)) dX12_of_173 ?_
                          refine lv_topi (fun v_49 ev_49 => ?_)
                          exact em_i (w1 := (fun (u : Int32 × (Nat → Int32) × (Nat → Int32) × (Nat → Int32)) => (MW cI cJ M mr (upd mi 0 u.1) (va_up (va_up (va_up mf 55 u.2.1) 53 u.2.2.1) 54 u.2.2.2) mg))) E hr hlk (0, gfarOf_29, (mf 53), (mf 54)) hw30 trivial (Nat.le_of_ble_eq_true rfl) (Nat.le_of_ble_eq_true rfl) dX12_of_174
                      · skip
                        have hc_32 := eqE (a := z_what.toInt) (b := 9) rfl (by decide +kernel) c_32
                        refine lv_aload_n (pc := 156) E.1 E.2.1 dX12_of_156 rfl (lv_at hl3 0 rfl) ?_
                        refine lv_iload_n (pc := 157) E.1 E.2.1 dX12_of_157 rfl (lv_at hl3 1 rfl) ?_
                        refine cm_i (pc := 158) hw30 (rn_M (As := [.int z_house]) (rest := []) E hw30 (s_burnOf l D cI cJ _ M mr (upd mi 0 0) (va_up mf 55 gfarOf_29) mg z_house (by show 0 ≤ z_house.toInt ∧ z_house.toInt ≤ 9; omega) h4 h6 h7 h8 h9 (show LW 16 400 (mf 31) (mf 32) (mf 28) (mf 29) (mf 30) ((mf 27) 1).toInt 400 from lf_law1)) (gdV q_1891 q_1893 q_105 q_162 q_1894) hdV_X12_burnOf ⟨rfl, rfl⟩ ⟨(Nat.le_of_ble_eq_true rfl), (Nat.le_of_ble_eq_true rfl)⟩ ⟨(Nat.le_of_ble_eq_true rfl), (Nat.le_of_ble_eq_true rfl)⟩ 12 rfl rfl rfl rfl hl3.1 rfl (Nat.le_of_ble_eq_true rfl) dX12_of_158) (fun r_51 u_50 H1 locs hp hw52 => ?_)
                        obtain ⟨gasked_53, gstack_54⟩ := u_50
                        generalize H1 = H at hw52 ⊢
                        have hw55 : WD D A s.heap (MW cI cJ M mr (upd mi 0 0) (va_up (va_up (va_up mf 53 gasked_53) 54 gstack_54) 55 gfarOf_29) mg) H locs := hw52
                        obtain ⟨hp_56, hp_57⟩ := hp
                        have hp_56 : 0 ≤ r_51.toInt := hp_56
                        have hp_57 : r_51.toInt ≤ 99 := hp_57
                        exact em_i (w1 := (fun (u : Int32 × (Nat → Int32) × (Nat → Int32) × (Nat → Int32)) => (MW cI cJ M mr (upd mi 0 u.1) (va_up (va_up (va_up mf 55 u.2.1) 53 u.2.2.1) 54 u.2.2.2) mg))) E hr hlk (0, gfarOf_29, gasked_53, gstack_54) hw55 trivial (Nat.le_of_ble_eq_true rfl) (Nat.le_of_ble_eq_true rfl) dX12_of_161
                    · skip
                      have hc_31 := eqE (a := z_what.toInt) (b := 8) rfl (by decide +kernel) c_31
                      refine lv_aload_n (pc := 144) E.1 E.2.1 dX12_of_144 rfl (lv_at hl3 0 rfl) ?_
                      refine lv_iload_n (pc := 145) E.1 E.2.1 dX12_of_145 rfl (lv_at hl3 1 rfl) ?_
                      refine cm_i (pc := 146) hw30 (rn_M (As := [.int z_house]) (rest := []) E hw30 (s_turnOfHouse l D cI cJ _ M mr (upd mi 0 0) (va_up mf 55 gfarOf_29) mg z_house (by show 0 ≤ z_house.toInt ∧ z_house.toInt ≤ 9; omega) h2 h4 h6 h7 h8 h9 (show LW 0 0 (mf 31) (mf 32) (mf 28) (mf 29) (mf 30) ((mf 27) 0).toInt 400 from lf_law0)) (gdV q_1855 q_1857 q_96 q_162 q_1858) hdV_X12_turnOfHouse ⟨rfl, rfl⟩ ⟨(Nat.le_of_ble_eq_true rfl), (Nat.le_of_ble_eq_true rfl)⟩ ⟨(Nat.le_of_ble_eq_true rfl), (Nat.le_of_ble_eq_true rfl)⟩ 12 rfl rfl rfl rfl hl3.1 rfl (Nat.le_of_ble_eq_true rfl) dX12_of_146) (fun r_59 u_58 H1 locs hp hw60 => ?_)
                      obtain ⟨gasked_61, gstack_62⟩ := u_58
                      generalize H1 = H at hw60 ⊢
                      have hw63 : WD D A s.heap (MW cI cJ M mr (upd mi 0 0) (va_up (va_up (va_up mf 53 gasked_61) 54 gstack_62) 55 gfarOf_29) mg) H locs := hw60
                      exact em_i (w1 := (fun (u : Int32 × (Nat → Int32) × (Nat → Int32) × (Nat → Int32)) => (MW cI cJ M mr (upd mi 0 u.1) (va_up (va_up (va_up mf 55 u.2.1) 53 u.2.2.1) 54 u.2.2.2) mg))) E hr hlk (0, gfarOf_29, gasked_61, gstack_62) hw63 trivial (Nat.le_of_ble_eq_true rfl) (Nat.le_of_ble_eq_true rfl) dX12_of_149
                  · skip
                    have hc_24 := eqE (a := z_what.toInt) (b := 7) rfl (by decide +kernel) c_24
                    refine lv_aload_n (pc := 121) E.1 E.2.1 dX12_of_121 rfl (lv_at hl3 0 rfl) ?_
                    refine x_get (pc := 122) (T := TX12) (N := 70) (ci := 12) (v := .ref (mr 10)) E hw8 inX12 0 10 q_1409 rfl rfl (by decide) rfl rfl dX12_of_122 ?_
                    refine lv_iload_n (pc := 125) E.1 E.2.1 dX12_of_125 rfl (lv_at hl3 1 rfl) ?_
                    refine x_iald (pc := 126) (f := (mf 10)) E hw8 7 rfl (inbE (a := z_house.toInt) rfl (by omega)) dX12_of_126 ?_
                    refine lv_topi (fun v_64 ev_64 => ?_)
                    exact em_i (w1 := (fun (u : Int32 × (Nat → Int32) × (Nat → Int32) × (Nat → Int32)) => (MW cI cJ M mr (upd mi 0 u.1) (va_up (va_up (va_up mf 55 u.2.1) 53 u.2.2.1) 54 u.2.2.2) mg))) E hr hlk (0, (mf 55), (mf 53), (mf 54)) hw8 trivial (Nat.le_of_ble_eq_true rfl) (Nat.le_of_ble_eq_true rfl) dX12_of_127
                · skip
                  have hc_23 := eqE (a := z_what.toInt) (b := 6) rfl (by decide +kernel) c_23
                  refine lv_aload_n (pc := 108) E.1 E.2.1 dX12_of_108 rfl (lv_at hl3 0 rfl) ?_
                  refine x_get (pc := 109) (T := TX12) (N := 70) (ci := 12) (v := .ref (mr 9)) E hw8 inX12 0 9 q_1408 rfl rfl (by decide) rfl rfl dX12_of_109 ?_
                  refine lv_iload_n (pc := 112) E.1 E.2.1 dX12_of_112 rfl (lv_at hl3 1 rfl) ?_
                  refine x_iald (pc := 113) (f := (mf 9)) E hw8 6 rfl (inbE (a := z_house.toInt) rfl (by omega)) dX12_of_113 ?_
                  refine lv_topi (fun v_65 ev_65 => ?_)
                  exact em_i (w1 := (fun (u : Int32 × (Nat → Int32) × (Nat → Int32) × (Nat → Int32)) => (MW cI cJ M mr (upd mi 0 u.1) (va_up (va_up (va_up mf 55 u.2.1) 53 u.2.2.1) 54 u.2.2.2) mg))) E hr hlk (0, (mf 55), (mf 53), (mf 54)) hw8 trivial (Nat.le_of_ble_eq_true rfl) (Nat.le_of_ble_eq_true rfl) dX12_of_114
              · skip
                have hc_22 := eqE (a := z_what.toInt) (b := 5) rfl (by decide +kernel) c_22
                refine lv_aload_n (pc := 90) E.1 E.2.1 dX12_of_90 rfl (lv_at hl3 0 rfl) ?_
                refine x_get (pc := 91) (T := TX12) (N := 70) (ci := 12) (v := .ref (mr 1)) E hw8 inX12 0 1 q_1400 rfl rfl (by decide) rfl rfl dX12_of_91 ?_
                refine lv_bipush (pc := 94) (v := 36) E.1 E.2.1 dX12_of_94 (by decide +kernel) ?_
                refine lv_iload_n (pc := 96) E.1 E.2.1 dX12_of_96 rfl (lv_at hl3 1 rfl) ?_
                refine lv_iadd (pc := 97) E.1 E.2.1 dX12_of_97 ?_
                refine lv_topi (fun v_66 ev_66 => ?_)
                have hv_66 : v_66.toInt = 36 + z_house.toInt := by rw [ev_66]; exact addE (by decide +kernel) rfl (by omega)
                refine x_iald (pc := 98) (f := (mf 1)) E hw8 1 rfl (inbE (a := v_66.toInt) rfl (by omega)) dX12_of_98 ?_
                refine lv_topi (fun v_67 ev_67 => ?_)
                refine lv_iconst (pc := 99) (v := 1) E.1 E.2.1 dX12_of_99 (by decide +kernel) ?_
                refine lv_isub (pc := 100) E.1 E.2.1 dX12_of_100 ?_
                refine lv_topi (fun v_68 ev_68 => ?_)
                exact em_i (w1 := (fun (u : Int32 × (Nat → Int32) × (Nat → Int32) × (Nat → Int32)) => (MW cI cJ M mr (upd mi 0 u.1) (va_up (va_up (va_up mf 55 u.2.1) 53 u.2.2.1) 54 u.2.2.2) mg))) E hr hlk (0, (mf 55), (mf 53), (mf 54)) hw8 trivial (Nat.le_of_ble_eq_true rfl) (Nat.le_of_ble_eq_true rfl) dX12_of_101
            · skip
              have hc_21 := eqE (a := z_what.toInt) (b := 4) rfl (by decide +kernel) c_21
              refine lv_aload_n (pc := 75) E.1 E.2.1 dX12_of_75 rfl (lv_at hl3 0 rfl) ?_
              refine x_get (pc := 76) (T := TX12) (N := 70) (ci := 12) (v := .ref (mr 1)) E hw8 inX12 0 1 q_1400 rfl rfl (by decide) rfl rfl dX12_of_76 ?_
              refine lv_bipush (pc := 79) (v := 26) E.1 E.2.1 dX12_of_79 (by decide +kernel) ?_
              refine lv_iload_n (pc := 81) E.1 E.2.1 dX12_of_81 rfl (lv_at hl3 1 rfl) ?_
              refine lv_iadd (pc := 82) E.1 E.2.1 dX12_of_82 ?_
              refine lv_topi (fun v_69 ev_69 => ?_)
              have hv_69 : v_69.toInt = 26 + z_house.toInt := by rw [ev_69]; exact addE (by decide +kernel) rfl (by omega)
              refine x_iald (pc := 83) (f := (mf 1)) E hw8 1 rfl (inbE (a := v_69.toInt) rfl (by omega)) dX12_of_83 ?_
              refine lv_topi (fun v_70 ev_70 => ?_)
              exact em_i (w1 := (fun (u : Int32 × (Nat → Int32) × (Nat → Int32) × (Nat → Int32)) => (MW cI cJ M mr (upd mi 0 u.1) (va_up (va_up (va_up mf 55 u.2.1) 53 u.2.2.1) 54 u.2.2.2) mg))) E hr hlk (0, (mf 55), (mf 53), (mf 54)) hw8 trivial (Nat.le_of_ble_eq_true rfl) (Nat.le_of_ble_eq_true rfl) dX12_of_84
          · skip
            have hc_20 := eqE (a := z_what.toInt) (b := 3) rfl (by decide +kernel) c_20
            refine lv_aload_n (pc := 60) E.1 E.2.1 dX12_of_60 rfl (lv_at hl3 0 rfl) ?_
            refine x_get (pc := 61) (T := TX12) (N := 70) (ci := 12) (v := .ref (mr 1)) E hw8 inX12 0 1 q_1400 rfl rfl (by decide) rfl rfl dX12_of_61 ?_
            refine lv_bipush (pc := 64) (v := 16) E.1 E.2.1 dX12_of_64 (by decide +kernel) ?_
            refine lv_iload_n (pc := 66) E.1 E.2.1 dX12_of_66 rfl (lv_at hl3 1 rfl) ?_
            refine lv_iadd (pc := 67) E.1 E.2.1 dX12_of_67 ?_
            refine lv_topi (fun v_71 ev_71 => ?_)
            have hv_71 : v_71.toInt = 16 + z_house.toInt := by rw [ev_71]; exact addE (by decide +kernel) rfl (by omega)
            refine x_iald (pc := 68) (f := (mf 1)) E hw8 1 rfl (inbE (a := v_71.toInt) rfl (by omega)) dX12_of_68 ?_
            refine lv_topi (fun v_72 ev_72 => ?_)
            exact em_i (w1 := (fun (u : Int32 × (Nat → Int32) × (Nat → Int32) × (Nat → Int32)) => (MW cI cJ M mr (upd mi 0 u.1) (va_up (va_up (va_up mf 55 u.2.1) 53 u.2.2.1) 54 u.2.2.2) mg))) E hr hlk (0, (mf 55), (mf 53), (mf 54)) hw8 trivial (Nat.le_of_ble_eq_true rfl) (Nat.le_of_ble_eq_true rfl) dX12_of_69
        · skip
          have hc_19 := eqE (a := z_what.toInt) (b := 2) rfl (by decide +kernel) c_19
          refine lv_aload_n (pc := 45) E.1 E.2.1 dX12_of_45 rfl (lv_at hl3 0 rfl) ?_
          refine x_get (pc := 46) (T := TX12) (N := 70) (ci := 12) (v := .ref (mr 1)) E hw8 inX12 0 1 q_1400 rfl rfl (by decide) rfl rfl dX12_of_46 ?_
          refine lv_bipush (pc := 49) (v := 6) E.1 E.2.1 dX12_of_49 (by decide +kernel) ?_
          refine lv_iload_n (pc := 51) E.1 E.2.1 dX12_of_51 rfl (lv_at hl3 1 rfl) ?_
          refine lv_iadd (pc := 52) E.1 E.2.1 dX12_of_52 ?_
          refine lv_topi (fun v_73 ev_73 => ?_)
          have hv_73 : v_73.toInt = 6 + z_house.toInt := by rw [ev_73]; exact addE (by decide +kernel) rfl (by omega)
          refine x_iald (pc := 53) (f := (mf 1)) E hw8 1 rfl (inbE (a := v_73.toInt) rfl (by omega)) dX12_of_53 ?_
          refine lv_topi (fun v_74 ev_74 => ?_)
          exact em_i (w1 := (fun (u : Int32 × (Nat → Int32) × (Nat → Int32) × (Nat → Int32)) => (MW cI cJ M mr (upd mi 0 u.1) (va_up (va_up (va_up mf 55 u.2.1) 53 u.2.2.1) 54 u.2.2.2) mg))) E hr hlk (0, (mf 55), (mf 53), (mf 54)) hw8 trivial (Nat.le_of_ble_eq_true rfl) (Nat.le_of_ble_eq_true rfl) dX12_of_54
      · skip
        have hc_18 := eqE (a := z_what.toInt) (b := 1) rfl (by decide +kernel) c_18
        refine lv_aload_n (pc := 33) E.1 E.2.1 dX12_of_33 rfl (lv_at hl3 0 rfl) ?_
        refine x_get (pc := 34) (T := TX12) (N := 70) (ci := 12) (v := .ref (mr 8)) E hw8 inX12 0 8 q_1407 rfl rfl (by decide) rfl rfl dX12_of_34 ?_
        refine lv_iload_n (pc := 37) E.1 E.2.1 dX12_of_37 rfl (lv_at hl3 1 rfl) ?_
        refine x_iald (pc := 38) (f := (mf 8)) E hw8 5 rfl (inbE (a := z_house.toInt) rfl (by omega)) dX12_of_38 ?_
        refine lv_topi (fun v_75 ev_75 => ?_)
        exact em_i (w1 := (fun (u : Int32 × (Nat → Int32) × (Nat → Int32) × (Nat → Int32)) => (MW cI cJ M mr (upd mi 0 u.1) (va_up (va_up (va_up mf 55 u.2.1) 53 u.2.2.1) 54 u.2.2.2) mg))) E hr hlk (0, (mf 55), (mf 53), (mf 54)) hw8 trivial (Nat.le_of_ble_eq_true rfl) (Nat.le_of_ble_eq_true rfl) dX12_of_39
    · skip
      have hc_17 := eqE (a := z_what.toInt) (b := 0) rfl (by decide +kernel) c_17
      refine lv_aload_n (pc := 21) E.1 E.2.1 dX12_of_21 rfl (lv_at hl3 0 rfl) ?_
      refine x_get (pc := 22) (T := TX12) (N := 70) (ci := 12) (v := .ref (mr 7)) E hw8 inX12 0 7 q_1406 rfl rfl (by decide) rfl rfl dX12_of_22 ?_
      refine lv_iload_n (pc := 25) E.1 E.2.1 dX12_of_25 rfl (lv_at hl3 1 rfl) ?_
      refine x_iald (pc := 26) (f := (mf 7)) E hw8 4 rfl (inbE (a := z_house.toInt) rfl (by omega)) dX12_of_26 ?_
      refine lv_topi (fun v_76 ev_76 => ?_)
      exact em_i (w1 := (fun (u : Int32 × (Nat → Int32) × (Nat → Int32) × (Nat → Int32)) => (MW cI cJ M mr (upd mi 0 u.1) (va_up (va_up (va_up mf 55 u.2.1) 53 u.2.2.1) 54 u.2.2.2) mg))) E hr hlk (0, (mf 55), (mf 53), (mf 54)) hw8 trivial (Nat.le_of_ble_eq_true rfl) (Nat.le_of_ble_eq_true rfl) dX12_of_27
