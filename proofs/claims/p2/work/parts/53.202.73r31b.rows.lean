set_option maxHeartbeats 4000000 in
set_option maxRecDepth 100000 in
theorem s_nextByLaw (l : Launch) (D : va_G) (cI cJ : ClassId) (sz M : Nat) (mr : Nat → Nat) (mi : Nat → Int32) (mf : Nat → Nat → Int32) (mg : Nat → Nat → Int64)  (h0 : 0 ≤ ((mf 1) 3).toInt) (h1 : ((mf 1) 3).toInt + 1 ≤ (mi 6).toInt) (h2 : (mi 6).toInt ≤ 10) (h3 : 0 ≤ (mi 44).toInt ∧ (mi 44).toInt ≤ 10) (h4 : 0 ≤ ((mf 27) 0).toInt) (h5 : ((mf 27) 0).toInt ≤ 16) (h6 : 0 ≤ ((mf 27) 1).toInt) (h7 : ((mf 27) 1).toInt ≤ 16) (lf_law0 : LW 0 0 (mf 31) (mf 32) (mf 28) (mf 29) (mf 30) ((mf 27) 0).toInt 400) : Met l yX12_nextByLaw (Cond.code yX12_nextByLaw cX12_nextByLaw 5 (some .int) :: GW) ({ frames := 6, cells := 0, slots := 0, locals := 151 } : Room) (va_Pc [.ref M] (PW D cI cJ sz (MW cI cJ M mr mi mf mg) xT)) (va_Qi (fun (r : Int32) (u : (Nat → Int32) × (Nat → Int32)) => (0 ≤ r.toInt) ∧ (r.toInt + 1 ≤ (mi 6).toInt)) (fun u => QW D cI cJ (va_A (MW cI cJ M mr mi mf mg) sz) ((fun (u : (Nat → Int32) × (Nat → Int32)) => (MW cI cJ M mr mi (va_up (va_up mf 53 u.1) 54 u.2) mg)) u)) (va_A (MW cI cJ M mr mi mf mg) sz)) 0 0 (va_A (MW cI cJ M mr mi mf mg) sz) := by
  refine mk_met (y := yX12_nextByLaw) (bytes := cX12_nextByLaw) (maxL := 5) (avs := [.ref M]) (WS := (MW cI cJ M mr mi mf mg)) (Qf := fun A => va_Qi (fun (r : Int32) (u : (Nat → Int32) × (Nat → Int32)) => (0 ≤ r.toInt) ∧ (r.toInt + 1 ≤ (mi 6).toInt)) (fun u => QW D cI cJ A ((fun (u : (Nat → Int32) × (Nat → Int32)) => (MW cI cJ M mr mi (va_up (va_up mf 53 u.1) 54 u.2) mg)) u)) A) (by decide) (Nat.le_of_ble_eq_true rfl) ?_
  intro p e s m below meth c A ls E hr hlk hnm hX hw1 hl2
  have hl3 : lv_has ls 5 [(0, .ref M)] := hl2
  refine lv_iconst (pc := 0) (v := (-1)) E.1 E.2.1 dX12_nextByLaw_0 (by decide +kernel) ?_
  refine lv_istore_n (pc := 1) (lv' := [(1, .int (-1)), (0, .ref M)]) E.1 E.2.1 dX12_nextByLaw_1 rfl hl3 (by decide) rfl (fun ls hl4 => ?_)
  refine lv_iconst (pc := 2) (v := 0) E.1 E.2.1 dX12_nextByLaw_2 (by decide +kernel) ?_
  refine lv_istore_n (pc := 3) (lv' := [(2, .int 0), (1, .int (-1)), (0, .ref M)]) E.1 E.2.1 dX12_nextByLaw_3 rfl hl4 (by decide) rfl (fun ls hl5 => ?_)
  refine lv_iconst (pc := 4) (v := 0) E.1 E.2.1 dX12_nextByLaw_4 (by decide +kernel) ?_
  refine lv_istore_n (pc := 5) (lv' := [(3, .int 0), (2, .int 0), (1, .int (-1)), (0, .ref M)]) E.1 E.2.1 dX12_nextByLaw_5 rfl hl5 (by decide) rfl (fun ls hl6 => ?_)
  have loop_7 : ∀ (k : Nat) (x_8 : Int32) (x_9 : Int32) (x_10 : Int32) (g_11 : Nat → Int32) (g_12 : Nat → Int32) (H : Heap) (locs : List Loc) (ls : Array Slot), (0 ≤ x_8.toInt) ∧ (x_8.toInt ≤ (mi 6).toInt) ∧ ((-1) ≤ x_9.toInt) ∧ (x_9.toInt + 1 ≤ (mi 6).toInt) ∧ (x_8.toInt ≤ ((mf 1) 3).toInt ∨ 0 ≤ x_9.toInt) → (mi 6).toInt - x_8.toInt < (k : Int) → WD D A s.heap (MW cI cJ M mr mi (va_up (va_up mf 53 g_11) 54 g_12) mg) H locs → lv_has ls 5 [(3, .int x_8), (2, .int x_10), (1, .int x_9), (0, .ref M)] → W p l e ({ frames := 6, cells := 0, slots := 0, locals := 151 } : Room) s m ([.ref M] : List Value).toArray below meth c H locs 0 0 (MQ below (va_Qi (fun (r : Int32) (u : (Nat → Int32) × (Nat → Int32)) => (0 ≤ r.toInt) ∧ (r.toInt + 1 ≤ (mi 6).toInt)) (fun u => QW D cI cJ A ((fun (u : (Nat → Int32) × (Nat → Int32)) => (MW cI cJ M mr mi (va_up (va_up mf 53 u.1) 54 u.2) mg)) u)) A) ([.ref M] : List Value).toArray s 0 0 A) (F0 m 6 ls []) := by
    intro k
    induction k with
    | zero =>
      intro x_8 x_9 x_10 g_11 g_12 _ _ _ hinv hm
      obtain ⟨hi_12_0, hi_12_1, hi_12_2, hi_12_3, hi_12_4⟩ := hinv
      exact absurd hm (by omega)
    | succ k ih_13 =>
      intro x_8 x_9 x_10 g_11 g_12 H locs ls hinv hm hw14 hl15
      obtain ⟨hi_12_0, hi_12_1, hi_12_2, hi_12_3, hi_12_4⟩ := hinv
      refine lv_iload_n (pc := 6) E.1 E.2.1 dX12_nextByLaw_6 rfl (lv_at hl15 0 rfl) ?_
      refine lv_aload_n (pc := 7) E.1 E.2.1 dX12_nextByLaw_7 rfl (lv_at hl15 3 rfl) ?_
      refine x_get (pc := 8) (T := TX12) (N := 70) (ci := 12) (v := .int (mi 6)) E hw14 inX12 0 6 q_1405 rfl rfl (by decide) rfl rfl dX12_nextByLaw_8 ?_
      refine lv_icmp_ge (pc := 11) (tgt := 63) E.1 E.2.1 dX12_nextByLaw_11 (by decide) (fun c_16 => ?_) (fun c_16 => ?_)
      · skip
        have hc_16 := leE (a := (mi 6).toInt) (b := x_8.toInt) rfl rfl c_16
        have hbest_17 : 0 ≤ x_9.toInt := by have q := hi_12_4; omega
        refine lv_iload_n (pc := 63) E.1 E.2.1 dX12_nextByLaw_63 rfl (lv_at hl15 2 rfl) ?_
        exact em_i (w1 := (fun (u : (Nat → Int32) × (Nat → Int32)) => (MW cI cJ M mr mi (va_up (va_up mf 53 u.1) 54 u.2) mg))) E hr hlk (g_11, g_12) hw14 ⟨(by show 0 ≤ x_9.toInt; omega), hi_12_3⟩ (Nat.le_of_ble_eq_true rfl) (Nat.le_of_ble_eq_true rfl) dX12_nextByLaw_64
      · skip
        have hc_16 := nleE (a := (mi 6).toInt) (b := x_8.toInt) rfl rfl c_16
        refine lv_aload_n (pc := 14) E.1 E.2.1 dX12_nextByLaw_14 rfl (lv_at hl15 3 rfl) ?_
        refine lv_aload_n (pc := 15) E.1 E.2.1 dX12_nextByLaw_15 rfl (lv_at hl15 3 rfl) ?_
        refine x_get (pc := 16) (T := TX12) (N := 70) (ci := 12) (v := .ref (mr 1)) E hw14 inX12 0 1 q_1400 rfl rfl (by decide) rfl rfl dX12_nextByLaw_16 ?_
        refine lv_iconst (pc := 19) (v := 3) E.1 E.2.1 dX12_nextByLaw_19 (by decide +kernel) ?_
        refine x_iald (pc := 20) (f := (mf 1)) E hw14 1 rfl (inbE (a := 3) (by decide +kernel) (by omega)) dX12_nextByLaw_20 ?_
        refine lv_topi (fun v_18 ev_18 => ?_)
        have hv_18 : v_18.toInt = ((mf 1) 3).toInt := by rw [ev_18]; rfl
        refine lv_iload_n (pc := 21) E.1 E.2.1 dX12_nextByLaw_21 rfl (lv_at hl15 0 rfl) ?_
        refine cm_i (pc := 22) hw14 (rn_M (As := [.int v_18, .int x_8]) (rest := []) E hw14 (s_isReached l D cI cJ _ M mr mi (va_up (va_up mf 53 g_11) 54 g_12) mg v_18 x_8 (by show 0 ≤ v_18.toInt ∧ v_18.toInt ≤ 9; omega) (by show 0 ≤ x_8.toInt ∧ x_8.toInt ≤ 9; omega)) (gdV q_1843 q_1845 q_93 q_162 q_1846) hdV_X12_isReached ⟨rfl, rfl⟩ ⟨(Nat.le_of_ble_eq_true rfl), (Nat.le_of_ble_eq_true rfl)⟩ ⟨(Nat.le_of_ble_eq_true rfl), (Nat.le_of_ble_eq_true rfl)⟩ 12 rfl rfl rfl rfl hl15.1 rfl (Nat.le_of_ble_eq_true rfl) dX12_nextByLaw_22) (fun r_20 u_19 H1 locs hp hw21 => ?_)
        generalize H1 = H at hw21 ⊢
        have hw22 : WD D A s.heap (MW cI cJ M mr mi (va_up (va_up mf 53 g_11) 54 g_12) mg) H locs := hw21
        have hp_23 := hp
        rcases hp_23 with ⟨rfl, ha_24⟩ | rfl | ⟨rfl, ha_25⟩
        · skip
          have ha_24 : v_18.toInt = x_8.toInt := ha_24
          refine lv_if_ne (pc := 25) (tgt := 31) E.1 E.2.1 dX12_nextByLaw_25 (by decide) (fun _ => ?_) (fun c_26 => absurd c_26 (mneE (a := 1) (b := 0) (by decide +kernel) (by decide +kernel) (by omega)))
          refine lv_aload_n (pc := 31) E.1 E.2.1 dX12_nextByLaw_31 rfl (lv_at hl15 3 rfl) ?_
          refine lv_iload_n (pc := 32) E.1 E.2.1 dX12_nextByLaw_32 rfl (lv_at hl15 0 rfl) ?_
          refine cm_i (pc := 33) hw22 (rn_M (As := [.int x_8]) (rest := []) E hw22 (s_turnOfHouse l D cI cJ _ M mr mi (va_up (va_up mf 53 g_11) 54 g_12) mg x_8 (by show 0 ≤ x_8.toInt ∧ x_8.toInt ≤ 9; omega) (by show 0 ≤ ((mf 1) 3).toInt ∧ ((mf 1) 3).toInt ≤ 9; omega) h3 h4 h5 h6 h7 (show LW 0 0 (mf 31) (mf 32) (mf 28) (mf 29) (mf 30) ((mf 27) 0).toInt 400 from lf_law0)) (gdV q_1855 q_1857 q_96 q_162 q_1858) hdV_X12_turnOfHouse ⟨rfl, rfl⟩ ⟨(Nat.le_of_ble_eq_true rfl), (Nat.le_of_ble_eq_true rfl)⟩ ⟨(Nat.le_of_ble_eq_true rfl), (Nat.le_of_ble_eq_true rfl)⟩ 12 rfl rfl rfl rfl hl15.1 rfl (Nat.le_of_ble_eq_true rfl) dX12_nextByLaw_33) (fun r_28 u_27 H1 locs hp hw29 => ?_)
          obtain ⟨gasked_30, gstack_31⟩ := u_27
          generalize H1 = H at hw29 ⊢
          have hw32 : WD D A s.heap (MW cI cJ M mr mi (va_up (va_up mf 53 gasked_30) 54 gstack_31) mg) H locs := hw29
          refine lv_istore (pc := 36) (lv' := [(4, .int r_28), (3, .int x_8), (2, .int x_10), (1, .int x_9), (0, .ref M)]) E.1 E.2.1 dX12_nextByLaw_36 hl15 (by decide) rfl (fun ls hl33 => ?_)
          refine lv_iload_n (pc := 38) E.1 E.2.1 dX12_nextByLaw_38 rfl (lv_at hl33 3 rfl) ?_
          refine lv_iconst (pc := 39) (v := (-1)) E.1 E.2.1 dX12_nextByLaw_39 (by decide +kernel) ?_
          refine lv_icmp_eq (pc := 40) (tgt := 52) E.1 E.2.1 dX12_nextByLaw_40 (by decide) (fun c_34 => ?_) (fun c_34 => ?_)
          · skip
            have hc_34 := eqE (a := x_9.toInt) (b := (-1)) rfl (by decide +kernel) c_34
            refine lv_iload_n (pc := 52) E.1 E.2.1 dX12_nextByLaw_52 rfl (lv_at hl33 1 rfl) ?_
            refine lv_istore_n (pc := 53) (lv' := [(1, .int x_8), (4, .int r_28), (3, .int x_8), (2, .int x_10), (0, .ref M)]) E.1 E.2.1 dX12_nextByLaw_53 rfl hl33 (by decide) rfl (fun ls hl35 => ?_)
            refine lv_iload (pc := 54) E.1 E.2.1 dX12_nextByLaw_54 (lv_at hl35 1 rfl) ?_
            refine lv_istore_n (pc := 56) (lv' := [(2, .int r_28), (1, .int x_8), (4, .int r_28), (3, .int x_8), (0, .ref M)]) E.1 E.2.1 dX12_nextByLaw_56 rfl hl35 (by decide) rfl (fun ls hl36 => ?_)
            obtain ⟨v_37, ev_37⟩ : ∃ z : Int32, x_8 + Int32.ofInt (1) = z := ⟨_, rfl⟩
            have hv_37 : v_37.toInt = x_8.toInt + (1) := by rw [← ev_37]; exact incE rfl (by decide) (by omega)
            refine lv_iinc (pc := 57) (v := v_37) (lv' := [(3, .int v_37), (2, .int r_28), (1, .int x_8), (4, .int r_28), (0, .ref M)]) E.1 E.2.1 dX12_nextByLaw_57 hl36 (k := 3) rfl ev_37 (by decide) rfl (fun ls hl38 => ?_)
            refine lv_goto (pc := 60) (tgt := 6) E.1 E.2.1 dX12_nextByLaw_60 (by decide) ?_
            exact ih_13 v_37 x_8 r_28 gasked_30 gstack_31 _ _ _ ⟨(by show 0 ≤ v_37.toInt; omega), (by show v_37.toInt ≤ (mi 6).toInt; omega), (by show (-1) ≤ x_8.toInt; omega), (by show x_8.toInt + 1 ≤ (mi 6).toInt; omega), (by have q9 := hi_12_4; omega)⟩ (by omega) hw32 (lv_sub hl38 [0, 1, 2, 4] rfl)
          · skip
            have hc_34 := neE (a := x_9.toInt) (b := (-1)) rfl (by decide +kernel) c_34
            refine lv_iload (pc := 43) E.1 E.2.1 dX12_nextByLaw_43 (lv_at hl33 0 rfl) ?_
            refine lv_iload_n (pc := 45) E.1 E.2.1 dX12_nextByLaw_45 rfl (lv_at hl33 2 rfl) ?_
            refine lv_icmp_gt (pc := 46) (tgt := 52) E.1 E.2.1 dX12_nextByLaw_46 (by decide) (fun c_39 => ?_) (fun c_39 => ?_)
            · skip
              have hc_39 := ltE (a := x_10.toInt) (b := r_28.toInt) rfl rfl c_39
              refine lv_iload_n (pc := 52) E.1 E.2.1 dX12_nextByLaw_52 rfl (lv_at hl33 1 rfl) ?_
              refine lv_istore_n (pc := 53) (lv' := [(1, .int x_8), (4, .int r_28), (3, .int x_8), (2, .int x_10), (0, .ref M)]) E.1 E.2.1 dX12_nextByLaw_53 rfl hl33 (by decide) rfl (fun ls hl40 => ?_)
              refine lv_iload (pc := 54) E.1 E.2.1 dX12_nextByLaw_54 (lv_at hl40 1 rfl) ?_
              refine lv_istore_n (pc := 56) (lv' := [(2, .int r_28), (1, .int x_8), (4, .int r_28), (3, .int x_8), (0, .ref M)]) E.1 E.2.1 dX12_nextByLaw_56 rfl hl40 (by decide) rfl (fun ls hl41 => ?_)
              obtain ⟨v_42, ev_42⟩ : ∃ z : Int32, x_8 + Int32.ofInt (1) = z := ⟨_, rfl⟩
              have hv_42 : v_42.toInt = x_8.toInt + (1) := by rw [← ev_42]; exact incE rfl (by decide) (by omega)
              refine lv_iinc (pc := 57) (v := v_42) (lv' := [(3, .int v_42), (2, .int r_28), (1, .int x_8), (4, .int r_28), (0, .ref M)]) E.1 E.2.1 dX12_nextByLaw_57 hl41 (k := 3) rfl ev_42 (by decide) rfl (fun ls hl43 => ?_)
              refine lv_goto (pc := 60) (tgt := 6) E.1 E.2.1 dX12_nextByLaw_60 (by decide) ?_
              exact ih_13 v_42 x_8 r_28 gasked_30 gstack_31 _ _ _ ⟨(by show 0 ≤ v_42.toInt; omega), (by show v_42.toInt ≤ (mi 6).toInt; omega), (by show (-1) ≤ x_8.toInt; omega), (by show x_8.toInt + 1 ≤ (mi 6).toInt; omega), (by have q9 := hi_12_4; omega)⟩ (by omega) hw32 (lv_sub hl43 [0, 1, 2, 4] rfl)
            · skip
              have hc_39 := nltE (a := x_10.toInt) (b := r_28.toInt) rfl rfl c_39
              refine lv_goto (pc := 49) (tgt := 57) E.1 E.2.1 dX12_nextByLaw_49 (by decide) ?_
              obtain ⟨v_44, ev_44⟩ : ∃ z : Int32, x_8 + Int32.ofInt (1) = z := ⟨_, rfl⟩
              have hv_44 : v_44.toInt = x_8.toInt + (1) := by rw [← ev_44]; exact incE rfl (by decide) (by omega)
              refine lv_iinc (pc := 57) (v := v_44) (lv' := [(3, .int v_44), (4, .int r_28), (2, .int x_10), (1, .int x_9), (0, .ref M)]) E.1 E.2.1 dX12_nextByLaw_57 hl33 (k := 1) rfl ev_44 (by decide) rfl (fun ls hl45 => ?_)
              refine lv_goto (pc := 60) (tgt := 6) E.1 E.2.1 dX12_nextByLaw_60 (by decide) ?_
              exact ih_13 v_44 x_9 x_10 gasked_30 gstack_31 _ _ _ ⟨(by show 0 ≤ v_44.toInt; omega), (by show v_44.toInt ≤ (mi 6).toInt; omega), hi_12_2, hi_12_3, (by have q9 := hi_12_4; omega)⟩ (by omega) hw32 (lv_sub hl45 [0, 2, 3, 4] rfl)
        · skip
          refine lv_if_ne (pc := 25) (tgt := 31) E.1 E.2.1 dX12_nextByLaw_25 (by decide) (fun _ => ?_) (fun c_46 => absurd c_46 (mneE (a := 1) (b := 0) (by decide +kernel) (by decide +kernel) (by omega)))
          refine lv_aload_n (pc := 31) E.1 E.2.1 dX12_nextByLaw_31 rfl (lv_at hl15 3 rfl) ?_
          refine lv_iload_n (pc := 32) E.1 E.2.1 dX12_nextByLaw_32 rfl (lv_at hl15 0 rfl) ?_
          refine cm_i (pc := 33) hw22 (rn_M (As := [.int x_8]) (rest := []) E hw22 (s_turnOfHouse l D cI cJ _ M mr mi (va_up (va_up mf 53 g_11) 54 g_12) mg x_8 (by show 0 ≤ x_8.toInt ∧ x_8.toInt ≤ 9; omega) (by show 0 ≤ ((mf 1) 3).toInt ∧ ((mf 1) 3).toInt ≤ 9; omega) h3 h4 h5 h6 h7 (show LW 0 0 (mf 31) (mf 32) (mf 28) (mf 29) (mf 30) ((mf 27) 0).toInt 400 from lf_law0)) (gdV q_1855 q_1857 q_96 q_162 q_1858) hdV_X12_turnOfHouse ⟨rfl, rfl⟩ ⟨(Nat.le_of_ble_eq_true rfl), (Nat.le_of_ble_eq_true rfl)⟩ ⟨(Nat.le_of_ble_eq_true rfl), (Nat.le_of_ble_eq_true rfl)⟩ 12 rfl rfl rfl rfl hl15.1 rfl (Nat.le_of_ble_eq_true rfl) dX12_nextByLaw_33) (fun r_48 u_47 H1 locs hp hw49 => ?_)
          obtain ⟨gasked_50, gstack_51⟩ := u_47
          generalize H1 = H at hw49 ⊢
          have hw52 : WD D A s.heap (MW cI cJ M mr mi (va_up (va_up mf 53 gasked_50) 54 gstack_51) mg) H locs := hw49
          refine lv_istore (pc := 36) (lv' := [(4, .int r_48), (3, .int x_8), (2, .int x_10), (1, .int x_9), (0, .ref M)]) E.1 E.2.1 dX12_nextByLaw_36 hl15 (by decide) rfl (fun ls hl53 => ?_)
          refine lv_iload_n (pc := 38) E.1 E.2.1 dX12_nextByLaw_38 rfl (lv_at hl53 3 rfl) ?_
          refine lv_iconst (pc := 39) (v := (-1)) E.1 E.2.1 dX12_nextByLaw_39 (by decide +kernel) ?_
          refine lv_icmp_eq (pc := 40) (tgt := 52) E.1 E.2.1 dX12_nextByLaw_40 (by decide) (fun c_54 => ?_) (fun c_54 => ?_)
          · skip
            have hc_54 := eqE (a := x_9.toInt) (b := (-1)) rfl (by decide +kernel) c_54
            refine lv_iload_n (pc := 52) E.1 E.2.1 dX12_nextByLaw_52 rfl (lv_at hl53 1 rfl) ?_
            refine lv_istore_n (pc := 53) (lv' := [(1, .int x_8), (4, .int r_48), (3, .int x_8), (2, .int x_10), (0, .ref M)]) E.1 E.2.1 dX12_nextByLaw_53 rfl hl53 (by decide) rfl (fun ls hl55 => ?_)
            refine lv_iload (pc := 54) E.1 E.2.1 dX12_nextByLaw_54 (lv_at hl55 1 rfl) ?_
            refine lv_istore_n (pc := 56) (lv' := [(2, .int r_48), (1, .int x_8), (4, .int r_48), (3, .int x_8), (0, .ref M)]) E.1 E.2.1 dX12_nextByLaw_56 rfl hl55 (by decide) rfl (fun ls hl56 => ?_)
            obtain ⟨v_57, ev_57⟩ : ∃ z : Int32, x_8 + Int32.ofInt (1) = z := ⟨_, rfl⟩
            have hv_57 : v_57.toInt = x_8.toInt + (1) := by rw [← ev_57]; exact incE rfl (by decide) (by omega)
            refine lv_iinc (pc := 57) (v := v_57) (lv' := [(3, .int v_57), (2, .int r_48), (1, .int x_8), (4, .int r_48), (0, .ref M)]) E.1 E.2.1 dX12_nextByLaw_57 hl56 (k := 3) rfl ev_57 (by decide) rfl (fun ls hl58 => ?_)
            refine lv_goto (pc := 60) (tgt := 6) E.1 E.2.1 dX12_nextByLaw_60 (by decide) ?_
            exact ih_13 v_57 x_8 r_48 gasked_50 gstack_51 _ _ _ ⟨(by show 0 ≤ v_57.toInt; omega), (by show v_57.toInt ≤ (mi 6).toInt; omega), (by show (-1) ≤ x_8.toInt; omega), (by show x_8.toInt + 1 ≤ (mi 6).toInt; omega), (by have q9 := hi_12_4; omega)⟩ (by omega) hw52 (lv_sub hl58 [0, 1, 2, 4] rfl)
          · skip
            have hc_54 := neE (a := x_9.toInt) (b := (-1)) rfl (by decide +kernel) c_54
            refine lv_iload (pc := 43) E.1 E.2.1 dX12_nextByLaw_43 (lv_at hl53 0 rfl) ?_
            refine lv_iload_n (pc := 45) E.1 E.2.1 dX12_nextByLaw_45 rfl (lv_at hl53 2 rfl) ?_
            refine lv_icmp_gt (pc := 46) (tgt := 52) E.1 E.2.1 dX12_nextByLaw_46 (by decide) (fun c_59 => ?_) (fun c_59 => ?_)
            · skip
              have hc_59 := ltE (a := x_10.toInt) (b := r_48.toInt) rfl rfl c_59
              refine lv_iload_n (pc := 52) E.1 E.2.1 dX12_nextByLaw_52 rfl (lv_at hl53 1 rfl) ?_
              refine lv_istore_n (pc := 53) (lv' := [(1, .int x_8), (4, .int r_48), (3, .int x_8), (2, .int x_10), (0, .ref M)]) E.1 E.2.1 dX12_nextByLaw_53 rfl hl53 (by decide) rfl (fun ls hl60 => ?_)
              refine lv_iload (pc := 54) E.1 E.2.1 dX12_nextByLaw_54 (lv_at hl60 1 rfl) ?_
              refine lv_istore_n (pc := 56) (lv' := [(2, .int r_48), (1, .int x_8), (4, .int r_48), (3, .int x_8), (0, .ref M)]) E.1 E.2.1 dX12_nextByLaw_56 rfl hl60 (by decide) rfl (fun ls hl61 => ?_)
              obtain ⟨v_62, ev_62⟩ : ∃ z : Int32, x_8 + Int32.ofInt (1) = z := ⟨_, rfl⟩
              have hv_62 : v_62.toInt = x_8.toInt + (1) := by rw [← ev_62]; exact incE rfl (by decide) (by omega)
              refine lv_iinc (pc := 57) (v := v_62) (lv' := [(3, .int v_62), (2, .int r_48), (1, .int x_8), (4, .int r_48), (0, .ref M)]) E.1 E.2.1 dX12_nextByLaw_57 hl61 (k := 3) rfl ev_62 (by decide) rfl (fun ls hl63 => ?_)
              refine lv_goto (pc := 60) (tgt := 6) E.1 E.2.1 dX12_nextByLaw_60 (by decide) ?_
              exact ih_13 v_62 x_8 r_48 gasked_50 gstack_51 _ _ _ ⟨(by show 0 ≤ v_62.toInt; omega), (by show v_62.toInt ≤ (mi 6).toInt; omega), (by show (-1) ≤ x_8.toInt; omega), (by show x_8.toInt + 1 ≤ (mi 6).toInt; omega), (by have q9 := hi_12_4; omega)⟩ (by omega) hw52 (lv_sub hl63 [0, 1, 2, 4] rfl)
            · skip
              have hc_59 := nltE (a := x_10.toInt) (b := r_48.toInt) rfl rfl c_59
              refine lv_goto (pc := 49) (tgt := 57) E.1 E.2.1 dX12_nextByLaw_49 (by decide) ?_
              obtain ⟨v_64, ev_64⟩ : ∃ z : Int32, x_8 + Int32.ofInt (1) = z := ⟨_, rfl⟩
              have hv_64 : v_64.toInt = x_8.toInt + (1) := by rw [← ev_64]; exact incE rfl (by decide) (by omega)
              refine lv_iinc (pc := 57) (v := v_64) (lv' := [(3, .int v_64), (4, .int r_48), (2, .int x_10), (1, .int x_9), (0, .ref M)]) E.1 E.2.1 dX12_nextByLaw_57 hl53 (k := 1) rfl ev_64 (by decide) rfl (fun ls hl65 => ?_)
              refine lv_goto (pc := 60) (tgt := 6) E.1 E.2.1 dX12_nextByLaw_60 (by decide) ?_
              exact ih_13 v_64 x_9 x_10 gasked_50 gstack_51 _ _ _ ⟨(by show 0 ≤ v_64.toInt; omega), (by show v_64.toInt ≤ (mi 6).toInt; omega), hi_12_2, hi_12_3, (by have q9 := hi_12_4; omega)⟩ (by omega) hw52 (lv_sub hl65 [0, 2, 3, 4] rfl)
        · skip
          have ha_25 : ¬ v_18.toInt = x_8.toInt := ha_25
          refine lv_if_ne (pc := 25) (tgt := 31) E.1 E.2.1 dX12_nextByLaw_25 (by decide) (fun c_66 => absurd (meqE (a := 0) (b := 0) (by decide +kernel) (by decide +kernel) (by omega)) c_66) (fun _ => ?_)
          refine lv_goto (pc := 28) (tgt := 57) E.1 E.2.1 dX12_nextByLaw_28 (by decide) ?_
          obtain ⟨v_67, ev_67⟩ : ∃ z : Int32, x_8 + Int32.ofInt (1) = z := ⟨_, rfl⟩
          have hv_67 : v_67.toInt = x_8.toInt + (1) := by rw [← ev_67]; exact incE rfl (by decide) (by omega)
          refine lv_iinc (pc := 57) (v := v_67) (lv' := [(3, .int v_67), (2, .int x_10), (1, .int x_9), (0, .ref M)]) E.1 E.2.1 dX12_nextByLaw_57 hl15 (k := 0) rfl ev_67 (by decide) rfl (fun ls hl68 => ?_)
          refine lv_goto (pc := 60) (tgt := 6) E.1 E.2.1 dX12_nextByLaw_60 (by decide) ?_
          exact ih_13 v_67 x_9 x_10 g_11 g_12 _ _ _ ⟨(by show 0 ≤ v_67.toInt; omega), (by show v_67.toInt ≤ (mi 6).toInt; omega), hi_12_2, hi_12_3, (by have q9 := hi_12_4; omega)⟩ (by omega) hw22 (lv_sub hl68 [0, 1, 2, 3] rfl)
  exact loop_7 (Int.toNat ((mi 6).toInt - 0) + 1) 0 (-1) 0 (mf 53) (mf 54) _ _ _ ⟨(by show 0 ≤ (0 : Int32).toInt; have k_0 : (0 : Int32).toInt = 0 := (by decide +kernel); omega), (by show (0 : Int32).toInt ≤ (mi 6).toInt; have k_0 : (0 : Int32).toInt = 0 := (by decide +kernel); omega), (by show (-1) ≤ ((-1) : Int32).toInt; have k_0 : ((-1) : Int32).toInt = -1 := (by decide +kernel); omega), (by show ((-1) : Int32).toInt + 1 ≤ (mi 6).toInt; have k_0 : ((-1) : Int32).toInt = -1 := (by decide +kernel); omega), (Or.inl (by have k9 : (0 : Int32).toInt = 0 := (by decide +kernel); omega))⟩ (by have k_0 : (0 : Int32).toInt = 0 := (by decide +kernel); have k_1 : ((-1) : Int32).toInt = -1 := (by decide +kernel); have k_2 : (0 : Int32).toInt = 0 := (by decide +kernel); omega) hw1 (lv_sub hl6 [0, 1, 2, 3] rfl)
set_option maxHeartbeats 4000000 in
set_option maxRecDepth 100000 in
theorem s_of (l : Launch) (D : va_G) (cI cJ : ClassId) (sz M : Nat) (mr : Nat → Nat) (mi : Nat → Int32) (mf : Nat → Nat → Int32) (mg : Nat → Nat → Int64) (z_house : Int32) (z_what : Int32) (h0 : 0 ≤ (mi 6).toInt ∧ (mi 6).toInt ≤ 10) (h1 : 0 ≤ ((mf 1) 2).toInt ∧ ((mf 1) 2).toInt ≤ 150) (h2 : 0 ≤ ((mf 1) 3).toInt ∧ ((mf 1) 3).toInt ≤ 9) (h3 : 0 ≤ ((mf 1) 5).toInt ∧ ((mf 1) 5).toInt ≤ 200) (h4 : 0 ≤ (mi 44).toInt ∧ (mi 44).toInt ≤ 10) (h5 : 0 ≤ (mi 42).toInt ∧ (mi 42).toInt ≤ 40) (h6 : 0 ≤ ((mf 27) 0).toInt) (h7 : ((mf 27) 0).toInt ≤ 16) (h8 : 0 ≤ ((mf 27) 1).toInt) (h9 : ((mf 27) 1).toInt ≤ 16) (h10 : 0 ≤ (mi 49).toInt ∧ (mi 49).toInt ≤ 200) (h11 : (-29) ≤ (mi 15).toInt ∧ (mi 15).toInt ≤ 69) (a_paths : pathsOK (mf 43)) (lf_law0 : LW 0 0 (mf 31) (mf 32) (mf 28) (mf 29) (mf 30) ((mf 27) 0).toInt 400) (lf_law1 : LW 16 400 (mf 31) (mf 32) (mf 28) (mf 29) (mf 30) ((mf 27) 1).toInt 400) : Met l yX12_of (Cond.code yX12_of cX12_of 3 (some .int) :: GW) ({ frames := 6, cells := 0, slots := 0, locals := 151 } : Room) (va_Pc [.ref M, .int z_house, .int z_what] (PW D cI cJ sz (MW cI cJ M mr mi mf mg) xT)) (va_Qi (fun (r : Int32) (u : Int32 × (Nat → Int32) × (Nat → Int32) × (Nat → Int32)) => True) (fun u => QW D cI cJ (va_A (MW cI cJ M mr mi mf mg) sz) ((fun (u : Int32 × (Nat → Int32) × (Nat → Int32) × (Nat → Int32)) => (MW cI cJ M mr (upd mi 0 u.1) (va_up (va_up (va_up mf 55 u.2.1) 53 u.2.2.1) 54 u.2.2.2) mg)) u)) (va_A (MW cI cJ M mr mi mf mg) sz)) 0 0 (va_A (MW cI cJ M mr mi mf mg) sz) := by
  refine mk_met (y := yX12_of) (bytes := cX12_of) (maxL := 3) (avs := [.ref M, .int z_house, .int z_what]) (WS := (MW cI cJ M mr mi mf mg)) (Qf := fun A => va_Qi (fun (r : Int32) (u : Int32 × (Nat → Int32) × (Nat → Int32) × (Nat → Int32)) => True) (fun u => QW D cI cJ A ((fun (u : Int32 × (Nat → Int32) × (Nat → Int32) × (Nat → Int32)) => (MW cI cJ M mr (upd mi 0 u.1) (va_up (va_up (va_up mf 55 u.2.1) 53 u.2.2.1) 54 u.2.2.2) mg)) u)) A) (by decide) (Nat.le_of_ble_eq_true rfl) ?_
  intro p e s m below meth c A ls E hr hlk hnm hX hw1 hl2
  have hl3 : lv_has ls 3 [(0, .ref M), (1, .int z_house), (2, .int z_what)] := hl2
  refine lv_aload_n (pc := 0) E.1 E.2.1 dX12_of_0 rfl (lv_at hl3 0 rfl) ?_
  refine lv_iconst (pc := 1) (v := 0) E.1 E.2.1 dX12_of_1 (by decide +kernel) ?_
  refine x_put (pc := 2) (T := TX12) (N := 70) (ci := 12) (ws' := (MW cI cJ M mr (upd mi 0 0) mf mg)) E hw1 inX12 tyX12_ok nmX12 0 0 q_1399 rfl rfl (by decide) rfl rfl rfl rfl (Nat.le_of_ble_eq_true rfl) rfl dX12_of_2 (fun H locs hw4 => ?_)
  refine lv_aload_n (pc := 5) E.1 E.2.1 dX12_of_5 rfl (lv_at hl3 0 rfl) ?_
  refine lv_iload_n (pc := 6) E.1 E.2.1 dX12_of_6 rfl (lv_at hl3 1 rfl) ?_
  refine cm_i (pc := 7) hw4 (rn_M (As := [.int z_house]) (rest := []) E hw4 (s_isHouse l D cI cJ _ M mr (upd mi 0 0) mf mg z_house) (gdV q_1634 q_1636 q_48 q_162 q_1637) hdV_X12_isHouse ⟨rfl, rfl⟩ ⟨(Nat.le_of_ble_eq_true rfl), (Nat.le_of_ble_eq_true rfl)⟩ ⟨(Nat.le_of_ble_eq_true rfl), (Nat.le_of_ble_eq_true rfl)⟩ 12 rfl rfl rfl rfl hl3.1 rfl (Nat.le_of_ble_eq_true rfl) dX12_of_7) (fun r_6 u_5 H1 locs hp hw7 => ?_)
  generalize H1 = H at hw7 ⊢
  have hw8 : WD D A s.heap (MW cI cJ M mr (upd mi 0 0) mf mg) H locs := hw7
  have hp_9 := hp
  rcases hp_9 with ⟨rfl, ha_10⟩ | ⟨rfl, ha_11⟩ | ⟨rfl, ha_12, ha_13⟩
  · skip
    have ha_10 : z_house.toInt < 0 := ha_10
    refine lv_if_ne (pc := 10) (tgt := 17) E.1 E.2.1 dX12_of_10 (by decide) (fun c_14 => absurd (meqE (a := 0) (b := 0) (by decide +kernel) (by decide +kernel) (by omega)) c_14) (fun _ => ?_)
    refine lv_ldcw (pc := 13) (v := (-1000000)) E.1 E.2.1 E.2.2.2.1 (E.2.2.2.2.1 _ q_1933) dX12_of_13 ?_
    exact em_i (w1 := (fun (u : Int32 × (Nat → Int32) × (Nat → Int32) × (Nat → Int32)) => (MW cI cJ M mr (upd mi 0 u.1) (va_up (va_up (va_up mf 55 u.2.1) 53 u.2.2.1) 54 u.2.2.2) mg))) E hr hlk (0, (mf 55), (mf 53), (mf 54)) hw8 trivial (Nat.le_of_ble_eq_true rfl) (Nat.le_of_ble_eq_true rfl) dX12_of_16
  · skip
    have ha_11 : (mi 6).toInt ≤ z_house.toInt := ha_11
    refine lv_if_ne (pc := 10) (tgt := 17) E.1 E.2.1 dX12_of_10 (by decide) (fun c_15 => absurd (meqE (a := 0) (b := 0) (by decide +kernel) (by decide +kernel) (by omega)) c_15) (fun _ => ?_)
    refine lv_ldcw (pc := 13) (v := (-1000000)) E.1 E.2.1 E.2.2.2.1 (E.2.2.2.2.1 _ q_1933) dX12_of_13 ?_
    exact em_i (w1 := (fun (u : Int32 × (Nat → Int32) × (Nat → Int32) × (Nat → Int32)) => (MW cI cJ M mr (upd mi 0 u.1) (va_up (va_up (va_up mf 55 u.2.1) 53 u.2.2.1) 54 u.2.2.2) mg))) E hr hlk (0, (mf 55), (mf 53), (mf 54)) hw8 trivial (Nat.le_of_ble_eq_true rfl) (Nat.le_of_ble_eq_true rfl) dX12_of_16
  · skip
    have ha_12 : 0 ≤ z_house.toInt := ha_12
    have ha_13 : z_house.toInt < (mi 6).toInt := ha_13
    refine lv_if_ne (pc := 10) (tgt := 17) E.1 E.2.1 dX12_of_10 (by decide) (fun _ => ?_) (fun c_16 => absurd c_16 (mneE (a := 1) (b := 0) (by decide +kernel) (by decide +kernel) (by omega)))
    refine lv_iload_n (pc := 17) E.1 E.2.1 dX12_of_17 rfl (lv_at hl3 2 rfl) ?_
    refine lv_if_ne (pc := 18) (tgt := 28) E.1 E.2.1 dX12_of_18 (by decide) (fun c_17 => ?_) (fun c_17 => ?_)
    · skip
      have hc_17 := neE (a := z_what.toInt) (b := 0) rfl (by decide +kernel) c_17
      refine lv_iload_n (pc := 28) E.1 E.2.1 dX12_of_28 rfl (lv_at hl3 2 rfl) ?_
      refine lv_iconst (pc := 29) (v := 1) E.1 E.2.1 dX12_of_29 (by decide +kernel) ?_
      refine lv_icmp_ne (pc := 30) (tgt := 40) E.1 E.2.1 dX12_of_30 (by decide) (fun c_18 => ?_) (fun c_18 => ?_)
      · skip
        have hc_18 := neE (a := z_what.toInt) (b := 1) rfl (by decide +kernel) c_18
        refine lv_iload_n (pc := 40) E.1 E.2.1 dX12_of_40 rfl (lv_at hl3 2 rfl) ?_
        refine lv_iconst (pc := 41) (v := 2) E.1 E.2.1 dX12_of_41 (by decide +kernel) ?_
        refine lv_icmp_ne (pc := 42) (tgt := 55) E.1 E.2.1 dX12_of_42 (by decide) (fun c_19 => ?_) (fun c_19 => ?_)
        · skip
          have hc_19 := neE (a := z_what.toInt) (b := 2) rfl (by decide +kernel) c_19
          refine lv_iload_n (pc := 55) E.1 E.2.1 dX12_of_55 rfl (lv_at hl3 2 rfl) ?_
          refine lv_iconst (pc := 56) (v := 3) E.1 E.2.1 dX12_of_56 (by decide +kernel) ?_
          refine lv_icmp_ne (pc := 57) (tgt := 70) E.1 E.2.1 dX12_of_57 (by decide) (fun c_20 => ?_) (fun c_20 => ?_)
          · skip
            have hc_20 := neE (a := z_what.toInt) (b := 3) rfl (by decide +kernel) c_20
            refine lv_iload_n (pc := 70) E.1 E.2.1 dX12_of_70 rfl (lv_at hl3 2 rfl) ?_
            refine lv_iconst (pc := 71) (v := 4) E.1 E.2.1 dX12_of_71 (by decide +kernel) ?_
            refine lv_icmp_ne (pc := 72) (tgt := 85) E.1 E.2.1 dX12_of_72 (by decide) (fun c_21 => ?_) (fun c_21 => ?_)
            · skip
              have hc_21 := neE (a := z_what.toInt) (b := 4) rfl (by decide +kernel) c_21
              refine lv_iload_n (pc := 85) E.1 E.2.1 dX12_of_85 rfl (lv_at hl3 2 rfl) ?_
              refine lv_iconst (pc := 86) (v := 5) E.1 E.2.1 dX12_of_86 (by decide +kernel) ?_
              refine lv_icmp_ne (pc := 87) (tgt := 102) E.1 E.2.1 dX12_of_87 (by decide) (fun c_22 => ?_) (fun c_22 => ?_)
              · skip
                have hc_22 := neE (a := z_what.toInt) (b := 5) rfl (by decide +kernel) c_22
                refine lv_iload_n (pc := 102) E.1 E.2.1 dX12_of_102 rfl (lv_at hl3 2 rfl) ?_
                refine lv_bipush (pc := 103) (v := 6) E.1 E.2.1 dX12_of_103 (by decide +kernel) ?_
                refine lv_icmp_ne (pc := 105) (tgt := 115) E.1 E.2.1 dX12_of_105 (by decide) (fun c_23 => ?_) (fun c_23 => ?_)
                · skip
                  have hc_23 := neE (a := z_what.toInt) (b := 6) rfl (by decide +kernel) c_23
                  refine lv_iload_n (pc := 115) E.1 E.2.1 dX12_of_115 rfl (lv_at hl3 2 rfl) ?_
                  refine lv_bipush (pc := 116) (v := 7) E.1 E.2.1 dX12_of_116 (by decide +kernel) ?_
                  refine lv_icmp_ne (pc := 118) (tgt := 128) E.1 E.2.1 dX12_of_118 (by decide) (fun c_24 => ?_) (fun c_24 => ?_)
                  · skip
                    have hc_24 := neE (a := z_what.toInt) (b := 7) rfl (by decide +kernel) c_24
                    refine lv_aload_n (pc := 128) E.1 E.2.1 dX12_of_128 rfl (lv_at hl3 0 rfl) ?_
                    refine lv_aload_n (pc := 129) E.1 E.2.1 dX12_of_129 rfl (lv_at hl3 0 rfl) ?_
                    refine x_get (pc := 130) (T := TX12) (N := 70) (ci := 12) (v := .ref (mr 1)) E hw8 inX12 0 1 q_1400 rfl rfl (by decide) rfl rfl dX12_of_130 ?_
                    refine lv_iconst (pc := 133) (v := 4) E.1 E.2.1 dX12_of_133 (by decide +kernel) ?_
                    refine x_iald (pc := 134) (f := (mf 1)) E hw8 1 rfl (inbE (a := 4) (by decide +kernel) (by omega)) dX12_of_134 ?_
                    refine lv_topi (fun v_25 ev_25 => ?_)
                    refine cm_v (pc := 135) hw8 (rn_M (As := [.int v_25]) (rest := []) E hw8 (s_findsFar l D cI cJ _ M mr (upd mi 0 0) mf mg v_25 h0 h5 a_paths) (gdV q_1822 q_1824 q_89 q_162 q_1825) hdV_X12_findsFar ⟨rfl, rfl⟩ ⟨(Nat.le_of_ble_eq_true rfl), (Nat.le_of_ble_eq_true rfl)⟩ ⟨(Nat.le_of_ble_eq_true rfl), (Nat.le_of_ble_eq_true rfl)⟩ 12 rfl rfl rfl rfl hl3.1 rfl (Nat.le_of_ble_eq_true rfl) dX12_of_135) (fun u_26 H1 locs hp hw28 => ?_)
                    obtain ⟨gfarOf_29, rfl⟩ : ∃ z, z = u_26 := ⟨_, rfl⟩
                    generalize H1 = H at hw28 ⊢
                    have hw30 : WD D A s.heap (MW cI cJ M mr (upd mi 0 0) (va_up mf 55 gfarOf_29) mg) H locs := hw28
                    refine lv_iload_n (pc := 138) E.1 E.2.1 dX12_of_138 rfl (lv_at hl3 2 rfl) ?_
                    refine lv_bipush (pc := 139) (v := 8) E.1 E.2.1 dX12_of_139 (by decide +kernel) ?_
                    refine lv_icmp_ne (pc := 141) (tgt := 150) E.1 E.2.1 dX12_of_141 (by decide) (fun c_31 => ?_) (fun c_31 => ?_)
                    · skip
                      have hc_31 := neE (a := z_what.toInt) (b := 8) rfl (by decide +kernel) c_31
                      refine lv_iload_n (pc := 150) E.1 E.2.1 dX12_of_150 rfl (lv_at hl3 2 rfl) ?_
                      refine lv_bipush (pc := 151) (v := 9) E.1 E.2.1 dX12_of_151 (by decide +kernel) ?_
                      refine lv_icmp_ne (pc := 153) (tgt := 162) E.1 E.2.1 dX12_of_153 (by decide) (fun c_32 => ?_) (fun c_32 => ?_)
                      · skip
                        have hc_32 := neE (a := z_what.toInt) (b := 9) rfl (by decide +kernel) c_32
                        refine lv_iload_n (pc := 162) E.1 E.2.1 dX12_of_162 rfl (lv_at hl3 2 rfl) ?_
                        refine lv_bipush (pc := 163) (v := 10) E.1 E.2.1 dX12_of_163 (by decide +kernel) ?_
                        refine lv_icmp_ne (pc := 165) (tgt := 175) E.1 E.2.1 dX12_of_165 (by decide) (fun c_33 => ?_) (fun c_33 => ?_)
                        · skip
                          have hc_33 := neE (a := z_what.toInt) (b := 10) rfl (by decide +kernel) c_33
                          refine lv_iload_n (pc := 175) E.1 E.2.1 dX12_of_175 rfl (lv_at hl3 2 rfl) ?_
                          refine lv_bipush (pc := 176) (v := 11) E.1 E.2.1 dX12_of_176 (by decide +kernel) ?_
                          refine lv_icmp_ne (pc := 178) (tgt := 187) E.1 E.2.1 dX12_of_178 (by decide) (fun c_34 => ?_) (fun c_34 => ?_)
                          · skip
                            have hc_34 := neE (a := z_what.toInt) (b := 11) rfl (by decide +kernel) c_34
                            refine lv_iload_n (pc := 187) E.1 E.2.1 dX12_of_187 rfl (lv_at hl3 2 rfl) ?_
                            refine lv_bipush (pc := 188) (v := 12) E.1 E.2.1 dX12_of_188 (by decide +kernel) ?_
                            refine lv_icmp_ne (pc := 190) (tgt := 201) E.1 E.2.1 dX12_of_190 (by decide) (fun c_35 => ?_) (fun c_35 => ?_)
                            · skip
                              have hc_35 := neE (a := z_what.toInt) (b := 12) rfl (by decide +kernel) c_35
                              refine lv_iload_n (pc := 201) E.1 E.2.1 dX12_of_201 rfl (lv_at hl3 2 rfl) ?_
                              refine lv_bipush (pc := 202) (v := 13) E.1 E.2.1 dX12_of_202 (by decide +kernel) ?_
                              refine lv_icmp_ne (pc := 204) (tgt := 215) E.1 E.2.1 dX12_of_204 (by decide) (fun c_36 => ?_) (fun c_36 => ?_)
                              · skip
                                have hc_36 := neE (a := z_what.toInt) (b := 13) rfl (by decide +kernel) c_36
                                refine lv_ldcw (pc := 215) (v := (-1000000)) E.1 E.2.1 E.2.2.2.1 (E.2.2.2.2.1 _ q_1933) dX12_of_215 ?_
                                exact em_i (w1 := (fun (u : Int32 × (Nat → Int32) × (Nat → Int32) × (Nat → Int32)) => (MW cI cJ M mr (upd mi 0 u.1) (va_up (va_up (va_up mf 55 u.2.1) 53 u.2.2.1) 54 u.2.2.2) mg))) E hr hlk (0, gfarOf_29, (mf 53), (mf 54)) hw30 trivial (Nat.le_of_ble_eq_true rfl) (Nat.le_of_ble_eq_true rfl) dX12_of_218
                              · skip
                                have hc_36 := eqE (a := z_what.toInt) (b := 13) rfl (by decide +kernel) c_36
                                refine lv_aload_n (pc := 207) E.1 E.2.1 dX12_of_207 rfl (lv_at hl3 0 rfl) ?_
                                refine lv_iload_n (pc := 208) E.1 E.2.1 dX12_of_208 rfl (lv_at hl3 1 rfl) ?_
                                refine cm_i (pc := 209) hw30 (rn_M (As := [.int z_house]) (rest := []) E hw30 (s_seenBy l D cI cJ _ M mr (upd mi 0 0) (va_up mf 55 gfarOf_29) mg z_house h0 (by show 0 ≤ z_house.toInt ∧ z_house.toInt ≤ 9; omega)) (gdV q_1946 q_1948 q_117 q_162 q_1949) hdV_X12_seenBy ⟨rfl, rfl⟩ ⟨(Nat.le_of_ble_eq_true rfl), (Nat.le_of_ble_eq_true rfl)⟩ ⟨(Nat.le_of_ble_eq_true rfl), (Nat.le_of_ble_eq_true rfl)⟩ 12 rfl rfl rfl rfl hl3.1 rfl (Nat.le_of_ble_eq_true rfl) dX12_of_209) (fun r_38 u_37 H1 locs hp hw39 => ?_)
                                generalize H1 = H at hw39 ⊢
                                have hw40 : WD D A s.heap (MW cI cJ M mr (upd mi 0 0) (va_up mf 55 gfarOf_29) mg) H locs := hw39
                                refine lv_goto (pc := 212) (tgt := 218) E.1 E.2.1 dX12_of_212 (by decide) ?_
                                exact em_i (w1 := (fun (u : Int32 × (Nat → Int32) × (Nat → Int32) × (Nat → Int32)) => (MW cI cJ M mr (upd mi 0 u.1) (va_up (va_up (va_up mf 55 u.2.1) 53 u.2.2.1) 54 u.2.2.2) mg))) E hr hlk (0, gfarOf_29, (mf 53), (mf 54)) hw40 trivial (Nat.le_of_ble_eq_true rfl) (Nat.le_of_ble_eq_true rfl) dX12_of_218
                            · skip
                              have hc_35 := eqE (a := z_what.toInt) (b := 12) rfl (by decide +kernel) c_35
                              refine lv_aload_n (pc := 193) E.1 E.2.1 dX12_of_193 rfl (lv_at hl3 0 rfl) ?_
                              refine lv_iload_n (pc := 194) E.1 E.2.1 dX12_of_194 rfl (lv_at hl3 1 rfl) ?_
                              refine cm_i (pc := 195) hw30 (rn_M (As := [.int z_house]) (rest := []) E hw30 (s_enviedBy l D cI cJ _ M mr (upd mi 0 0) (va_up mf 55 gfarOf_29) mg z_house h0 (by show 0 ≤ z_house.toInt ∧ z_house.toInt ≤ 9; omega)) (gdV q_1938 q_1940 q_115 q_162 q_1941) hdV_X12_enviedBy ⟨rfl, rfl⟩ ⟨(Nat.le_of_ble_eq_true rfl), (Nat.le_of_ble_eq_true rfl)⟩ ⟨(Nat.le_of_ble_eq_true rfl), (Nat.le_of_ble_eq_true rfl)⟩ 12 rfl rfl rfl rfl hl3.1 rfl (Nat.le_of_ble_eq_true rfl) dX12_of_195) (fun r_42 u_41 H1 locs hp hw43 => ?_)
                              generalize H1 = H at hw43 ⊢
                              have hw44 : WD D A s.heap (MW cI cJ M mr (upd mi 0 0) (va_up mf 55 gfarOf_29) mg) H locs := hw43
                              refine lv_goto (pc := 198) (tgt := 218) E.1 E.2.1 dX12_of_198 (by decide) ?_
                              exact em_i (w1 := (fun (u : Int32 × (Nat → Int32) × (Nat → Int32) × (Nat → Int32)) => (MW cI cJ M mr (upd mi 0 u.1) (va_up (va_up (va_up mf 55 u.2.1) 53 u.2.2.1) 54 u.2.2.2) mg))) E hr hlk (0, gfarOf_29, (mf 53), (mf 54)) hw44 trivial (Nat.le_of_ble_eq_true rfl) (Nat.le_of_ble_eq_true rfl) dX12_of_218
                          · skip
                            have hc_34 := eqE (a := z_what.toInt) (b := 11) rfl (by decide +kernel) c_34
                            refine lv_aload_n (pc := 181) E.1 E.2.1 dX12_of_181 rfl (lv_at hl3 0 rfl) ?_
                            refine lv_iload_n (pc := 182) E.1 E.2.1 dX12_of_182 rfl (lv_at hl3 1 rfl) ?_
                            refine cm_i (pc := 183) hw30 (rn_M (As := [.int z_house]) (rest := []) E hw30 (s_reachedFrom l D cI cJ _ M mr (upd mi 0 0) (va_up mf 55 gfarOf_29) mg z_house h0 (by show 0 ≤ z_house.toInt ∧ z_house.toInt ≤ 9; omega)) (gdV q_1934 q_1936 q_114 q_162 q_1937) hdV_X12_reachedFrom ⟨rfl, rfl⟩ ⟨(Nat.le_of_ble_eq_true rfl), (Nat.le_of_ble_eq_true rfl)⟩ ⟨(Nat.le_of_ble_eq_true rfl), (Nat.le_of_ble_eq_true rfl)⟩ 12 rfl rfl rfl rfl hl3.1 rfl (Nat.le_of_ble_eq_true rfl) dX12_of_183) (fun r_46 u_45 H1 locs hp hw47 => ?_)
                            generalize H1 = H at hw47 ⊢
                            have hw48 : WD D A s.heap (MW cI cJ M mr (upd mi 0 0) (va_up mf 55 gfarOf_29) mg) H locs := hw47
                            exact em_i (w1 := (fun (u : Int32 × (Nat → Int32) × (Nat → Int32) × (Nat → Int32)) => (MW cI cJ M mr (upd mi 0 u.1) (va_up (va_up (va_up mf 55 u.2.1) 53 u.2.2.1) 54 u.2.2.2) mg))) E hr hlk (0, gfarOf_29, (mf 53), (mf 54)) hw48 trivial (Nat.le_of_ble_eq_true rfl) (Nat.le_of_ble_eq_true rfl) dX12_of_186
                        · skip
                          have hc_33 := eqE (a := z_what.toInt) (b := 10) rfl (by decide +kernel) c_33
                          refine lv_aload_n (pc := 168) E.1 E.2.1 dX12_of_168 rfl (lv_at hl3 0 rfl) ?_
                          refine x_get (pc := 169) (T := TX12) (N := 70) (ci := 12) (v := .ref (mr 11)) E hw30 inX12 0 11 q_1410 rfl rfl (by decide) rfl rfl dX12_of_169 ?_
                          refine lv_iload_n (pc := 172) E.1 E.2.1 dX12_of_172 rfl (lv_at hl3 1 rfl) ?_
                          refine x_iald (pc := 173) (f := (mf 11)) E hw30 8 rfl (inbE (a := z_house.toInt) rfl (by omega)) dX12_of_173 ?_
                          refine lv_topi (fun v_49 ev_49 => ?_)
                          exact em_i (w1 := (fun (u : Int32 × (Nat → Int32) × (Nat → Int32) × (Nat → Int32)) => (MW cI cJ M mr (upd mi 0 u.1) (va_up (va_up (va_up mf 55 u.2.1) 53 u.2.2.1) 54 u.2.2.2) mg))) E hr hlk (0, gfarOf_29, (mf 53), (mf 54)) hw30 trivial (Nat.le_of_ble_eq_true rfl) (Nat.le_of_ble_eq_true rfl) dX12_of_174
                      · skip
                        have hc_32 := eqE (a := z_what.toInt) (b := 9) rfl (by decide +kernel) c_32
                        refine lv_aload_n (pc := 156) E.1 E.2.1 dX12_of_156 rfl (lv_at hl3 0 rfl) ?_
                        refine lv_iload_n (pc := 157) E.1 E.2.1 dX12_of_157 rfl (lv_at hl3 1 rfl) ?_
                        refine cm_i (pc := 158) hw30 (rn_M (As := [.int z_house]) (rest := []) E hw30 (s_burnOf l D cI cJ _ M mr (upd mi 0 0) (va_up mf 55 gfarOf_29) mg z_house (by show 0 ≤ z_house.toInt ∧ z_house.toInt ≤ 9; omega) h4 h6 h7 h8 h9 (show LW 16 400 (mf 31) (mf 32) (mf 28) (mf 29) (mf 30) ((mf 27) 1).toInt 400 from lf_law1)) (gdV q_1891 q_1893 q_105 q_162 q_1894) hdV_X12_burnOf ⟨rfl, rfl⟩ ⟨(Nat.le_of_ble_eq_true rfl), (Nat.le_of_ble_eq_true rfl)⟩ ⟨(Nat.le_of_ble_eq_true rfl), (Nat.le_of_ble_eq_true rfl)⟩ 12 rfl rfl rfl rfl hl3.1 rfl (Nat.le_of_ble_eq_true rfl) dX12_of_158) (fun r_51 u_50 H1 locs hp hw52 => ?_)
                        obtain ⟨gasked_53, gstack_54⟩ := u_50
                        generalize H1 = H at hw52 ⊢
                        have hw55 : WD D A s.heap (MW cI cJ M mr (upd mi 0 0) (va_up (va_up (va_up mf 53 gasked_53) 54 gstack_54) 55 gfarOf_29) mg) H locs := hw52
                        obtain ⟨hp_56, hp_57⟩ := hp
                        have hp_56 : 0 ≤ r_51.toInt := hp_56
                        have hp_57 : r_51.toInt ≤ 99 := hp_57
                        exact em_i (w1 := (fun (u : Int32 × (Nat → Int32) × (Nat → Int32) × (Nat → Int32)) => (MW cI cJ M mr (upd mi 0 u.1) (va_up (va_up (va_up mf 55 u.2.1) 53 u.2.2.1) 54 u.2.2.2) mg))) E hr hlk (0, gfarOf_29, gasked_53, gstack_54) hw55 trivial (Nat.le_of_ble_eq_true rfl) (Nat.le_of_ble_eq_true rfl) dX12_of_161
                    · skip
                      have hc_31 := eqE (a := z_what.toInt) (b := 8) rfl (by decide +kernel) c_31
                      refine lv_aload_n (pc := 144) E.1 E.2.1 dX12_of_144 rfl (lv_at hl3 0 rfl) ?_
                      refine lv_iload_n (pc := 145) E.1 E.2.1 dX12_of_145 rfl (lv_at hl3 1 rfl) ?_
                      refine cm_i (pc := 146) hw30 (rn_M (As := [.int z_house]) (rest := []) E hw30 (s_turnOfHouse l D cI cJ _ M mr (upd mi 0 0) (va_up mf 55 gfarOf_29) mg z_house (by show 0 ≤ z_house.toInt ∧ z_house.toInt ≤ 9; omega) h2 h4 h6 h7 h8 h9 (show LW 0 0 (mf 31) (mf 32) (mf 28) (mf 29) (mf 30) ((mf 27) 0).toInt 400 from lf_law0)) (gdV q_1855 q_1857 q_96 q_162 q_1858) hdV_X12_turnOfHouse ⟨rfl, rfl⟩ ⟨(Nat.le_of_ble_eq_true rfl), (Nat.le_of_ble_eq_true rfl)⟩ ⟨(Nat.le_of_ble_eq_true rfl), (Nat.le_of_ble_eq_true rfl)⟩ 12 rfl rfl rfl rfl hl3.1 rfl (Nat.le_of_ble_eq_true rfl) dX12_of_146) (fun r_59 u_58 H1 locs hp hw60 => ?_)
                      obtain ⟨gasked_61, gstack_62⟩ := u_58
                      generalize H1 = H at hw60 ⊢
                      have hw63 : WD D A s.heap (MW cI cJ M mr (upd mi 0 0) (va_up (va_up (va_up mf 53 gasked_61) 54 gstack_62) 55 gfarOf_29) mg) H locs := hw60
                      exact em_i (w1 := (fun (u : Int32 × (Nat → Int32) × (Nat → Int32) × (Nat → Int32)) => (MW cI cJ M mr (upd mi 0 u.1) (va_up (va_up (va_up mf 55 u.2.1) 53 u.2.2.1) 54 u.2.2.2) mg))) E hr hlk (0, gfarOf_29, gasked_61, gstack_62) hw63 trivial (Nat.le_of_ble_eq_true rfl) (Nat.le_of_ble_eq_true rfl) dX12_of_149
                  · skip
                    have hc_24 := eqE (a := z_what.toInt) (b := 7) rfl (by decide +kernel) c_24
                    refine lv_aload_n (pc := 121) E.1 E.2.1 dX12_of_121 rfl (lv_at hl3 0 rfl) ?_
                    refine x_get (pc := 122) (T := TX12) (N := 70) (ci := 12) (v := .ref (mr 10)) E hw8 inX12 0 10 q_1409 rfl rfl (by decide) rfl rfl dX12_of_122 ?_
                    refine lv_iload_n (pc := 125) E.1 E.2.1 dX12_of_125 rfl (lv_at hl3 1 rfl) ?_
                    refine x_iald (pc := 126) (f := (mf 10)) E hw8 7 rfl (inbE (a := z_house.toInt) rfl (by omega)) dX12_of_126 ?_
                    refine lv_topi (fun v_64 ev_64 => ?_)
                    exact em_i (w1 := (fun (u : Int32 × (Nat → Int32) × (Nat → Int32) × (Nat → Int32)) => (MW cI cJ M mr (upd mi 0 u.1) (va_up (va_up (va_up mf 55 u.2.1) 53 u.2.2.1) 54 u.2.2.2) mg))) E hr hlk (0, (mf 55), (mf 53), (mf 54)) hw8 trivial (Nat.le_of_ble_eq_true rfl) (Nat.le_of_ble_eq_true rfl) dX12_of_127
                · skip
                  have hc_23 := eqE (a := z_what.toInt) (b := 6) rfl (by decide +kernel) c_23
                  refine lv_aload_n (pc := 108) E.1 E.2.1 dX12_of_108 rfl (lv_at hl3 0 rfl) ?_
                  refine x_get (pc := 109) (T := TX12) (N := 70) (ci := 12) (v := .ref (mr 9)) E hw8 inX12 0 9 q_1408 rfl rfl (by decide) rfl rfl dX12_of_109 ?_
                  refine lv_iload_n (pc := 112) E.1 E.2.1 dX12_of_112 rfl (lv_at hl3 1 rfl) ?_
                  refine x_iald (pc := 113) (f := (mf 9)) E hw8 6 rfl (inbE (a := z_house.toInt) rfl (by omega)) dX12_of_113 ?_
                  refine lv_topi (fun v_65 ev_65 => ?_)
                  exact em_i (w1 := (fun (u : Int32 × (Nat → Int32) × (Nat → Int32) × (Nat → Int32)) => (MW cI cJ M mr (upd mi 0 u.1) (va_up (va_up (va_up mf 55 u.2.1) 53 u.2.2.1) 54 u.2.2.2) mg))) E hr hlk (0, (mf 55), (mf 53), (mf 54)) hw8 trivial (Nat.le_of_ble_eq_true rfl) (Nat.le_of_ble_eq_true rfl) dX12_of_114
              · skip
                have hc_22 := eqE (a := z_what.toInt) (b := 5) rfl (by decide +kernel) c_22
                refine lv_aload_n (pc := 90) E.1 E.2.1 dX12_of_90 rfl (lv_at hl3 0 rfl) ?_
                refine x_get (pc := 91) (T := TX12) (N := 70) (ci := 12) (v := .ref (mr 1)) E hw8 inX12 0 1 q_1400 rfl rfl (by decide) rfl rfl dX12_of_91 ?_
                refine lv_bipush (pc := 94) (v := 36) E.1 E.2.1 dX12_of_94 (by decide +kernel) ?_
                refine lv_iload_n (pc := 96) E.1 E.2.1 dX12_of_96 rfl (lv_at hl3 1 rfl) ?_
                refine lv_iadd (pc := 97) E.1 E.2.1 dX12_of_97 ?_
                refine lv_topi (fun v_66 ev_66 => ?_)
                have hv_66 : v_66.toInt = 36 + z_house.toInt := by rw [ev_66]; exact addE (by decide +kernel) rfl (by omega)
                refine x_iald (pc := 98) (f := (mf 1)) E hw8 1 rfl (inbE (a := v_66.toInt) rfl (by omega)) dX12_of_98 ?_
                refine lv_topi (fun v_67 ev_67 => ?_)
                refine lv_iconst (pc := 99) (v := 1) E.1 E.2.1 dX12_of_99 (by decide +kernel) ?_
                refine lv_isub (pc := 100) E.1 E.2.1 dX12_of_100 ?_
                refine lv_topi (fun v_68 ev_68 => ?_)
                exact em_i (w1 := (fun (u : Int32 × (Nat → Int32) × (Nat → Int32) × (Nat → Int32)) => (MW cI cJ M mr (upd mi 0 u.1) (va_up (va_up (va_up mf 55 u.2.1) 53 u.2.2.1) 54 u.2.2.2) mg))) E hr hlk (0, (mf 55), (mf 53), (mf 54)) hw8 trivial (Nat.le_of_ble_eq_true rfl) (Nat.le_of_ble_eq_true rfl) dX12_of_101
            · skip
              have hc_21 := eqE (a := z_what.toInt) (b := 4) rfl (by decide +kernel) c_21
              refine lv_aload_n (pc := 75) E.1 E.2.1 dX12_of_75 rfl (lv_at hl3 0 rfl) ?_
              refine x_get (pc := 76) (T := TX12) (N := 70) (ci := 12) (v := .ref (mr 1)) E hw8 inX12 0 1 q_1400 rfl rfl (by decide) rfl rfl dX12_of_76 ?_
              refine lv_bipush (pc := 79) (v := 26) E.1 E.2.1 dX12_of_79 (by decide +kernel) ?_
              refine lv_iload_n (pc := 81) E.1 E.2.1 dX12_of_81 rfl (lv_at hl3 1 rfl) ?_
              refine lv_iadd (pc := 82) E.1 E.2.1 dX12_of_82 ?_
              refine lv_topi (fun v_69 ev_69 => ?_)
              have hv_69 : v_69.toInt = 26 + z_house.toInt := by rw [ev_69]; exact addE (by decide +kernel) rfl (by omega)
              refine x_iald (pc := 83) (f := (mf 1)) E hw8 1 rfl (inbE (a := v_69.toInt) rfl (by omega)) dX12_of_83 ?_
              refine lv_topi (fun v_70 ev_70 => ?_)
              exact em_i (w1 := (fun (u : Int32 × (Nat → Int32) × (Nat → Int32) × (Nat → Int32)) => (MW cI cJ M mr (upd mi 0 u.1) (va_up (va_up (va_up mf 55 u.2.1) 53 u.2.2.1) 54 u.2.2.2) mg))) E hr hlk (0, (mf 55), (mf 53), (mf 54)) hw8 trivial (Nat.le_of_ble_eq_true rfl) (Nat.le_of_ble_eq_true rfl) dX12_of_84
          · skip
            have hc_20 := eqE (a := z_what.toInt) (b := 3) rfl (by decide +kernel) c_20
            refine lv_aload_n (pc := 60) E.1 E.2.1 dX12_of_60 rfl (lv_at hl3 0 rfl) ?_
            refine x_get (pc := 61) (T := TX12) (N := 70) (ci := 12) (v := .ref (mr 1)) E hw8 inX12 0 1 q_1400 rfl rfl (by decide) rfl rfl dX12_of_61 ?_
            refine lv_bipush (pc := 64) (v := 16) E.1 E.2.1 dX12_of_64 (by decide +kernel) ?_
            refine lv_iload_n (pc := 66) E.1 E.2.1 dX12_of_66 rfl (lv_at hl3 1 rfl) ?_
            refine lv_iadd (pc := 67) E.1 E.2.1 dX12_of_67 ?_
            refine lv_topi (fun v_71 ev_71 => ?_)
            have hv_71 : v_71.toInt = 16 + z_house.toInt := by rw [ev_71]; exact addE (by decide +kernel) rfl (by omega)
            refine x_iald (pc := 68) (f := (mf 1)) E hw8 1 rfl (inbE (a := v_71.toInt) rfl (by omega)) dX12_of_68 ?_
            refine lv_topi (fun v_72 ev_72 => ?_)
            exact em_i (w1 := (fun (u : Int32 × (Nat → Int32) × (Nat → Int32) × (Nat → Int32)) => (MW cI cJ M mr (upd mi 0 u.1) (va_up (va_up (va_up mf 55 u.2.1) 53 u.2.2.1) 54 u.2.2.2) mg))) E hr hlk (0, (mf 55), (mf 53), (mf 54)) hw8 trivial (Nat.le_of_ble_eq_true rfl) (Nat.le_of_ble_eq_true rfl) dX12_of_69
        · skip
          have hc_19 := eqE (a := z_what.toInt) (b := 2) rfl (by decide +kernel) c_19
          refine lv_aload_n (pc := 45) E.1 E.2.1 dX12_of_45 rfl (lv_at hl3 0 rfl) ?_
          refine x_get (pc := 46) (T := TX12) (N := 70) (ci := 12) (v := .ref (mr 1)) E hw8 inX12 0 1 q_1400 rfl rfl (by decide) rfl rfl dX12_of_46 ?_
          refine lv_bipush (pc := 49) (v := 6) E.1 E.2.1 dX12_of_49 (by decide +kernel) ?_
          refine lv_iload_n (pc := 51) E.1 E.2.1 dX12_of_51 rfl (lv_at hl3 1 rfl) ?_
          refine lv_iadd (pc := 52) E.1 E.2.1 dX12_of_52 ?_
          refine lv_topi (fun v_73 ev_73 => ?_)
          have hv_73 : v_73.toInt = 6 + z_house.toInt := by rw [ev_73]; exact addE (by decide +kernel) rfl (by omega)
          refine x_iald (pc := 53) (f := (mf 1)) E hw8 1 rfl (inbE (a := v_73.toInt) rfl (by omega)) dX12_of_53 ?_
          refine lv_topi (fun v_74 ev_74 => ?_)
          exact em_i (w1 := (fun (u : Int32 × (Nat → Int32) × (Nat → Int32) × (Nat → Int32)) => (MW cI cJ M mr (upd mi 0 u.1) (va_up (va_up (va_up mf 55 u.2.1) 53 u.2.2.1) 54 u.2.2.2) mg))) E hr hlk (0, (mf 55), (mf 53), (mf 54)) hw8 trivial (Nat.le_of_ble_eq_true rfl) (Nat.le_of_ble_eq_true rfl) dX12_of_54
      · skip
        have hc_18 := eqE (a := z_what.toInt) (b := 1) rfl (by decide +kernel) c_18
        refine lv_aload_n (pc := 33) E.1 E.2.1 dX12_of_33 rfl (lv_at hl3 0 rfl) ?_
        refine x_get (pc := 34) (T := TX12) (N := 70) (ci := 12) (v := .ref (mr 8)) E hw8 inX12 0 8 q_1407 rfl rfl (by decide) rfl rfl dX12_of_34 ?_
        refine lv_iload_n (pc := 37) E.1 E.2.1 dX12_of_37 rfl (lv_at hl3 1 rfl) ?_
        refine x_iald (pc := 38) (f := (mf 8)) E hw8 5 rfl (inbE (a := z_house.toInt) rfl (by omega)) dX12_of_38 ?_
        refine lv_topi (fun v_75 ev_75 => ?_)
        exact em_i (w1 := (fun (u : Int32 × (Nat → Int32) × (Nat → Int32) × (Nat → Int32)) => (MW cI cJ M mr (upd mi 0 u.1) (va_up (va_up (va_up mf 55 u.2.1) 53 u.2.2.1) 54 u.2.2.2) mg))) E hr hlk (0, (mf 55), (mf 53), (mf 54)) hw8 trivial (Nat.le_of_ble_eq_true rfl) (Nat.le_of_ble_eq_true rfl) dX12_of_39
    · skip
      have hc_17 := eqE (a := z_what.toInt) (b := 0) rfl (by decide +kernel) c_17
      refine lv_aload_n (pc := 21) E.1 E.2.1 dX12_of_21 rfl (lv_at hl3 0 rfl) ?_
      refine x_get (pc := 22) (T := TX12) (N := 70) (ci := 12) (v := .ref (mr 7)) E hw8 inX12 0 7 q_1406 rfl rfl (by decide) rfl rfl dX12_of_22 ?_
      refine lv_iload_n (pc := 25) E.1 E.2.1 dX12_of_25 rfl (lv_at hl3 1 rfl) ?_
      refine x_iald (pc := 26) (f := (mf 7)) E hw8 4 rfl (inbE (a := z_house.toInt) rfl (by omega)) dX12_of_26 ?_
      refine lv_topi (fun v_76 ev_76 => ?_)
      exact em_i (w1 := (fun (u : Int32 × (Nat → Int32) × (Nat → Int32) × (Nat → Int32)) => (MW cI cJ M mr (upd mi 0 u.1) (va_up (va_up (va_up mf 55 u.2.1) 53 u.2.2.1) 54 u.2.2.2) mg))) E hr hlk (0, (mf 55), (mf 53), (mf 54)) hw8 trivial (Nat.le_of_ble_eq_true rfl) (Nat.le_of_ble_eq_true rfl) dX12_of_27
