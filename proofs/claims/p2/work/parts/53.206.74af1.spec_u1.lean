set_option maxHeartbeats 4000000 in
set_option maxRecDepth 100000 in
theorem s_goesForU (l : Launch) (D : va_G) (cI cJ : ClassId) (sz M : Nat) (mr : Nat → Nat) (mi : Nat → Int32) (mf : Nat → Nat → Int32) (mg : Nat → Nat → Int64) (z_n : Int32) (h0 : 0 ≤ ((mf 1) 3).toInt) (h1 : ((mf 1) 3).toInt + 1 ≤ (mi 6).toInt) (h2 : (mi 6).toInt ≤ 10) (h3 : 0 ≤ ((mf 1) 2).toInt ∧ ((mf 1) 2).toInt ≤ 150) (h4 : 0 ≤ ((mf 1) 5).toInt ∧ ((mf 1) 5).toInt ≤ 200) (h5 : 0 ≤ (mi 44).toInt ∧ (mi 44).toInt ≤ 10) (h6 : 0 ≤ (mi 42).toInt ∧ (mi 42).toInt ≤ 40) (h7 : 0 ≤ ((mf 27) 0).toInt) (h8 : ((mf 27) 0).toInt ≤ 16) (h9 : 0 ≤ ((mf 27) 1).toInt) (h10 : ((mf 27) 1).toInt ≤ 16) (h11 : 0 ≤ (mi 49).toInt ∧ (mi 49).toInt ≤ 200) (h12 : (-29) ≤ (mi 15).toInt ∧ (mi 15).toInt ≤ 69) (h13 : 1 ≤ z_n.toInt ∧ z_n.toInt ≤ 99) (h14 : 0 ≤ ((mf 1) 0).toInt) (h15 : ((mf 1) 0).toInt ≤ 9999) (a_paths : pathsOK (mf 43)) (lf_law0 : LW 0 0 (mf 31) (mf 32) (mf 28) (mf 29) (mf 30) ((mf 27) 0).toInt 400) (lf_law1 : LW 16 400 (mf 31) (mf 32) (mf 28) (mf 29) (mf 30) ((mf 27) 1).toInt 400) (lf_round : rndOK (mi 49).toInt (mi 6).toInt (mf 50)) : Met l yX12_goesFor (Cond.code yX12_goesFor cX12_goesFor 4 (some .int) :: GW) ({ frames := 8, cells := 0, slots := 0, locals := 201 } : Room) (va_Pc [.ref M, .int z_n] (PW D cI cJ sz (MW cI cJ M mr mi mf mg) xT)) (va_Qi (fun (r : Int32) (u : (Nat → Int32) × (Nat → Int32) × Int32 × Int32 × Int32 × Int32 × (Nat → Int32) × (Nat → Int32) × (Nat → Int32) × (Nat → Int32)) => ((u.1 2).toInt = ((mf 1) 2).toInt) ∧ ((u.1 3).toInt = ((mf 1) 3).toInt) ∧ ((u.1 5).toInt = ((mf 1) 5).toInt) ∧ (u.2.2.1.toInt = 0) ∧ ((u.1 0).toInt = ((mf 1) 0).toInt) ∧ ((u.1 1).toInt = ((mf 1) 1).toInt)) (fun u => QW D cI cJ (va_A (MW cI cJ M mr mi mf mg) sz) ((fun (u : (Nat → Int32) × (Nat → Int32) × Int32 × Int32 × Int32 × Int32 × (Nat → Int32) × (Nat → Int32) × (Nat → Int32) × (Nat → Int32)) => (MW cI cJ M mr (upd (upd (upd (upd mi 5 u.2.2.1) 56 u.2.2.2.1) 57 u.2.2.2.2.1) 58 u.2.2.2.2.2.1) (va_up (va_up (va_up (va_up (va_up (va_up mf 1 u.1) 4 u.2.1) 55 u.2.2.2.2.2.2.1) 53 u.2.2.2.2.2.2.2.1) 54 u.2.2.2.2.2.2.2.2.1) 16 u.2.2.2.2.2.2.2.2.2) mg)) u)) (va_A (MW cI cJ M mr mi mf mg) sz)) 0 0 (va_A (MW cI cJ M mr mi mf mg) sz) := by
  refine mk_met (y := yX12_goesFor) (bytes := cX12_goesFor) (maxL := 4) (avs := [.ref M, .int z_n]) (WS := (MW cI cJ M mr mi mf mg)) (Qf := fun A => va_Qi (fun (r : Int32) (u : (Nat → Int32) × (Nat → Int32) × Int32 × Int32 × Int32 × Int32 × (Nat → Int32) × (Nat → Int32) × (Nat → Int32) × (Nat → Int32)) => ((u.1 2).toInt = ((mf 1) 2).toInt) ∧ ((u.1 3).toInt = ((mf 1) 3).toInt) ∧ ((u.1 5).toInt = ((mf 1) 5).toInt) ∧ (u.2.2.1.toInt = 0) ∧ ((u.1 0).toInt = ((mf 1) 0).toInt) ∧ ((u.1 1).toInt = ((mf 1) 1).toInt)) (fun u => QW D cI cJ A ((fun (u : (Nat → Int32) × (Nat → Int32) × Int32 × Int32 × Int32 × Int32 × (Nat → Int32) × (Nat → Int32) × (Nat → Int32) × (Nat → Int32)) => (MW cI cJ M mr (upd (upd (upd (upd mi 5 u.2.2.1) 56 u.2.2.2.1) 57 u.2.2.2.2.1) 58 u.2.2.2.2.2.1) (va_up (va_up (va_up (va_up (va_up (va_up mf 1 u.1) 4 u.2.1) 55 u.2.2.2.2.2.2.1) 53 u.2.2.2.2.2.2.2.1) 54 u.2.2.2.2.2.2.2.2.1) 16 u.2.2.2.2.2.2.2.2.2) mg)) u)) A) (by decide) (Nat.le_of_ble_eq_true rfl) ?_
  intro p e s m below meth c A ls E hr hlk hnm hX hw1 hl2
  have hl3 : lv_has ls 4 [(0, .ref M), (1, .int z_n)] := hl2
  refine lv_aload_n (pc := 0) E.1 E.2.1 dX12_goesFor_0 rfl (lv_at hl3 0 rfl) ?_
  refine cm_v (pc := 1) hw1 (rn_M (As := []) (rest := []) E hw1 (s_thinksU l D cI cJ _ M mr mi mf mg ) (gdV q_1978 q_1980 q_122 q_162 q_1981) hdV_X12_thinks ⟨rfl, rfl⟩ ⟨(Nat.le_of_ble_eq_true rfl), (Nat.le_of_ble_eq_true rfl)⟩ ⟨(Nat.le_of_ble_eq_true rfl), (Nat.le_of_ble_eq_true rfl)⟩ 12 rfl rfl rfl rfl hl3.1 rfl (Nat.le_of_ble_eq_true rfl) dX12_goesFor_1) (fun u_4 H1 locs hp hw6 => ?_)
  obtain ⟨gwaiting_7, nisThought_8⟩ := u_4
  generalize H1 = H at hw6 ⊢
  have hw9 : WD D A s.heap (MW cI cJ M mr (upd mi 5 nisThought_8) (va_up mf 4 gwaiting_7) mg) H locs := hw6
  obtain ⟨hp_10, hp_11, hp_12, hp_13, hp_14, hp_15⟩ := hp
  have hp_10 : nisThought_8.toInt = 1 := hp_10
  have hp_11 : (gwaiting_7 2).toInt = ((mf 1) 2).toInt := hp_11
  have hp_12 : (gwaiting_7 3).toInt = ((mf 1) 3).toInt := hp_12
  have hp_13 : (gwaiting_7 5).toInt = ((mf 1) 5).toInt := hp_13
  have hp_14 : (gwaiting_7 0).toInt = ((mf 1) 0).toInt := hp_14
  have hp_15 : (gwaiting_7 1).toInt = ((mf 1) 1).toInt := hp_15
  refine lv_aload_n (pc := 4) E.1 E.2.1 dX12_goesFor_4 rfl (lv_at hl3 0 rfl) ?_
  refine lv_iconst (pc := 5) (v := 0) E.1 E.2.1 dX12_goesFor_5 (by decide +kernel) ?_
  refine x_put (pc := 6) (T := TX12) (N := 70) (ci := 12) (ws' := (MW cI cJ M mr (upd (upd mi 5 nisThought_8) 56 0) (va_up mf 4 gwaiting_7) mg)) E hw9 inX12 tyX12_ok nmX12 0 56 q_1455 rfl rfl (by decide) rfl rfl rfl rfl (Nat.le_of_ble_eq_true rfl) rfl dX12_goesFor_6 (fun H locs hw16 => ?_)
  refine lv_aload_n (pc := 9) E.1 E.2.1 dX12_goesFor_9 rfl (lv_at hl3 0 rfl) ?_
  refine lv_iconst (pc := 10) (v := 0) E.1 E.2.1 dX12_goesFor_10 (by decide +kernel) ?_
  refine x_put (pc := 11) (T := TX12) (N := 70) (ci := 12) (ws' := (MW cI cJ M mr (upd (upd (upd mi 5 nisThought_8) 56 0) 57 0) (va_up mf 4 gwaiting_7) mg)) E hw16 inX12 tyX12_ok nmX12 0 57 q_1456 rfl rfl (by decide) rfl rfl rfl rfl (Nat.le_of_ble_eq_true rfl) rfl dX12_goesFor_11 (fun H locs hw17 => ?_)
  refine lv_aload_n (pc := 14) E.1 E.2.1 dX12_goesFor_14 rfl (lv_at hl3 0 rfl) ?_
  refine lv_iconst (pc := 15) (v := (-1)) E.1 E.2.1 dX12_goesFor_15 (by decide +kernel) ?_
  refine x_put (pc := 16) (T := TX12) (N := 70) (ci := 12) (ws' := (MW cI cJ M mr (upd (upd (upd (upd mi 5 nisThought_8) 56 0) 57 0) 58 (-1)) (va_up mf 4 gwaiting_7) mg)) E hw17 inX12 tyX12_ok nmX12 0 58 q_1457 rfl rfl (by decide) rfl rfl rfl rfl (Nat.le_of_ble_eq_true rfl) rfl dX12_goesFor_16 (fun H locs hw18 => ?_)
  refine lv_iconst (pc := 19) (v := 0) E.1 E.2.1 dX12_goesFor_19 (by decide +kernel) ?_
  refine lv_istore_n (pc := 20) (lv' := [(2, .int 0), (0, .ref M), (1, .int z_n)]) E.1 E.2.1 dX12_goesFor_20 rfl hl3 (by decide) rfl (fun ls hl19 => ?_)
  have loop_20 : ∀ (k : Nat) (x_21 : Int32) (x_22 : Int32) (x_23 : Int32) (x_24 : Int32) (g_25 : Nat → Int32) (g_26 : Nat → Int32) (g_27 : Nat → Int32) (g_28 : Nat → Int32) (g_29 : Nat → Int32) (H : Heap) (locs : List Loc) (ls : Array Slot), (0 ≤ x_21.toInt) ∧ (x_21.toInt ≤ z_n.toInt) ∧ (0 ≤ (g_25 2).toInt) ∧ ((g_25 2).toInt ≤ 150) ∧ (0 ≤ (g_25 3).toInt) ∧ ((g_25 3).toInt + 1 ≤ (mi 6).toInt) ∧ (0 ≤ (g_25 5).toInt) ∧ ((g_25 5).toInt ≤ 200) ∧ ((g_25 0).toInt = ((mf 1) 0).toInt + x_21.toInt) → z_n.toInt - x_21.toInt < (k : Int) → WD D A s.heap (MW cI cJ M mr (upd (upd (upd (upd mi 5 nisThought_8) 56 x_22) 57 x_23) 58 x_24) (va_up (va_up (va_up (va_up (va_up (va_up mf 1 g_25) 4 gwaiting_7) 16 g_29) 53 g_27) 54 g_28) 55 g_26) mg) H locs → lv_has ls 4 [(2, .int x_21), (0, .ref M), (1, .int z_n)] → W p l e ({ frames := 8, cells := 0, slots := 0, locals := 201 } : Room) s m ([.ref M, .int z_n] : List Value).toArray below meth c H locs 0 0 (MQ below (va_Qi (fun (r : Int32) (u : (Nat → Int32) × (Nat → Int32) × Int32 × Int32 × Int32 × Int32 × (Nat → Int32) × (Nat → Int32) × (Nat → Int32) × (Nat → Int32)) => ((u.1 2).toInt = ((mf 1) 2).toInt) ∧ ((u.1 3).toInt = ((mf 1) 3).toInt) ∧ ((u.1 5).toInt = ((mf 1) 5).toInt) ∧ (u.2.2.1.toInt = 0) ∧ ((u.1 0).toInt = ((mf 1) 0).toInt) ∧ ((u.1 1).toInt = ((mf 1) 1).toInt)) (fun u => QW D cI cJ A ((fun (u : (Nat → Int32) × (Nat → Int32) × Int32 × Int32 × Int32 × Int32 × (Nat → Int32) × (Nat → Int32) × (Nat → Int32) × (Nat → Int32)) => (MW cI cJ M mr (upd (upd (upd (upd mi 5 u.2.2.1) 56 u.2.2.2.1) 57 u.2.2.2.2.1) 58 u.2.2.2.2.2.1) (va_up (va_up (va_up (va_up (va_up (va_up mf 1 u.1) 4 u.2.1) 55 u.2.2.2.2.2.2.1) 53 u.2.2.2.2.2.2.2.1) 54 u.2.2.2.2.2.2.2.2.1) 16 u.2.2.2.2.2.2.2.2.2) mg)) u)) A) ([.ref M, .int z_n] : List Value).toArray s 0 0 A) (F0 m 21 ls []) := by
    intro k
    induction k with
    | zero =>
      intro x_21 x_22 x_23 x_24 g_25 g_26 g_27 g_28 g_29 _ _ _ hinv hm
      obtain ⟨hi_29_0, hi_29_1, hi_29_2, hi_29_3, hi_29_4, hi_29_5, hi_29_6, hi_29_7, hi_29_8⟩ := hinv
      exact absurd hm (by omega)
    | succ k ih_30 =>
      intro x_21 x_22 x_23 x_24 g_25 g_26 g_27 g_28 g_29 H locs ls hinv hm hw31 hl32
      obtain ⟨hi_29_0, hi_29_1, hi_29_2, hi_29_3, hi_29_4, hi_29_5, hi_29_6, hi_29_7, hi_29_8⟩ := hinv
      refine lv_iload_n (pc := 21) E.1 E.2.1 dX12_goesFor_21 rfl (lv_at hl32 0 rfl) ?_
      refine lv_iload_n (pc := 22) E.1 E.2.1 dX12_goesFor_22 rfl (lv_at hl32 2 rfl) ?_
      refine lv_icmp_ge (pc := 23) (tgt := 130) E.1 E.2.1 dX12_goesFor_23 (by decide) (fun c_33 => ?_) (fun c_33 => ?_)
      · skip
        have hc_33 := leE (a := z_n.toInt) (b := x_21.toInt) rfl rfl c_33
        refine lv_aload_n (pc := 130) E.1 E.2.1 dX12_goesFor_130 rfl (lv_at hl32 1 rfl) ?_
        refine x_get (pc := 131) (T := TX12) (N := 70) (ci := 12) (v := .ref (mr 1)) E hw31 inX12 0 1 q_1400 rfl rfl (by decide) rfl rfl dX12_goesFor_131 ?_
        refine lv_iconst (pc := 134) (v := 3) E.1 E.2.1 dX12_goesFor_134 (by decide +kernel) ?_
        refine x_iald (pc := 135) (f := g_25) E hw31 1 rfl (inbE (a := 3) (by decide +kernel) (by omega)) dX12_goesFor_135 ?_
        refine lv_topi (fun v_34 ev_34 => ?_)
        have hv_34 : v_34.toInt = (g_25 3).toInt := by rw [ev_34]; rfl
        refine lv_istore_n (pc := 136) (lv' := [(2, .int v_34), (0, .ref M), (1, .int z_n)]) E.1 E.2.1 dX12_goesFor_136 rfl hl32 (by decide) rfl (fun ls hl35 => ?_)
        refine lv_aload_n (pc := 137) E.1 E.2.1 dX12_goesFor_137 rfl (lv_at hl35 1 rfl) ?_
        refine cm_v (pc := 138) hw31 (rn_M (As := []) (rest := []) E hw31 (s_endsThoughtU l D cI cJ _ M mr (upd (upd (upd (upd mi 5 nisThought_8) 56 x_22) 57 x_23) 58 x_24) (va_up (va_up (va_up (va_up (va_up (va_up mf 1 g_25) 4 gwaiting_7) 16 g_29) 53 g_27) 54 g_28) 55 g_26) mg ) (gdV q_1982 q_1984 q_123 q_162 q_1985) hdV_X12_endsThought ⟨rfl, rfl⟩ ⟨(Nat.le_of_ble_eq_true rfl), (Nat.le_of_ble_eq_true rfl)⟩ ⟨(Nat.le_of_ble_eq_true rfl), (Nat.le_of_ble_eq_true rfl)⟩ 12 rfl rfl rfl rfl hl35.1 rfl (Nat.le_of_ble_eq_true rfl) dX12_goesFor_138) (fun u_36 H1 locs hp hw38 => ?_)
        obtain ⟨gnow_39, nisThought_40⟩ := u_36
        generalize H1 = H at hw38 ⊢
        have hw41 : WD D A s.heap (MW cI cJ M mr (upd (upd (upd (upd mi 5 nisThought_40) 56 x_22) 57 x_23) 58 x_24) (va_up (va_up (va_up (va_up (va_up (va_up mf 1 gnow_39) 4 gwaiting_7) 16 g_29) 53 g_27) 54 g_28) 55 g_26) mg) H locs := hw38
        obtain ⟨hp_42, hp_43, hp_44, hp_45, hp_46, hp_47⟩ := hp
        have hp_42 : nisThought_40.toInt = 0 := hp_42
        have hp_43 : (gnow_39 2).toInt = (gwaiting_7 2).toInt := hp_43
        have hp_44 : (gnow_39 3).toInt = (gwaiting_7 3).toInt := hp_44
        have hp_45 : (gnow_39 5).toInt = (gwaiting_7 5).toInt := hp_45
        have hp_46 : (gnow_39 0).toInt = (gwaiting_7 0).toInt := hp_46
        have hp_47 : (gnow_39 1).toInt = (gwaiting_7 1).toInt := hp_47
        refine lv_iload_n (pc := 141) E.1 E.2.1 dX12_goesFor_141 rfl (lv_at hl35 0 rfl) ?_
        exact em_i (w1 := (fun (u : (Nat → Int32) × (Nat → Int32) × Int32 × Int32 × Int32 × Int32 × (Nat → Int32) × (Nat → Int32) × (Nat → Int32) × (Nat → Int32)) => (MW cI cJ M mr (upd (upd (upd (upd mi 5 u.2.2.1) 56 u.2.2.2.1) 57 u.2.2.2.2.1) 58 u.2.2.2.2.2.1) (va_up (va_up (va_up (va_up (va_up (va_up mf 1 u.1) 4 u.2.1) 55 u.2.2.2.2.2.2.1) 53 u.2.2.2.2.2.2.2.1) 54 u.2.2.2.2.2.2.2.2.1) 16 u.2.2.2.2.2.2.2.2.2) mg))) E hr hlk (gnow_39, gwaiting_7, nisThought_40, x_22, x_23, x_24, g_26, g_27, g_28, g_29) hw41 ⟨(by show (gnow_39 2).toInt = ((mf 1) 2).toInt; omega), (by show (gnow_39 3).toInt = ((mf 1) 3).toInt; omega), (by show (gnow_39 5).toInt = ((mf 1) 5).toInt; omega), hp_42, (by show (gnow_39 0).toInt = ((mf 1) 0).toInt; omega), (by show (gnow_39 1).toInt = ((mf 1) 1).toInt; omega)⟩ (Nat.le_of_ble_eq_true rfl) (Nat.le_of_ble_eq_true rfl) dX12_goesFor_142
      · skip
        have hc_33 := nleE (a := z_n.toInt) (b := x_21.toInt) rfl rfl c_33
        refine lv_aload_n (pc := 26) E.1 E.2.1 dX12_goesFor_26 rfl (lv_at hl32 1 rfl) ?_
        refine cm_i (pc := 27) hw31 (rn_M (As := []) (rest := []) E hw31 (s_goesByU l D cI cJ _ M mr (upd (upd (upd (upd mi 5 nisThought_8) 56 x_22) 57 x_23) 58 x_24) (va_up (va_up (va_up (va_up (va_up (va_up mf 1 g_25) 4 gwaiting_7) 16 g_29) 53 g_27) 54 g_28) 55 g_26) mg hi_29_4 hi_29_5 h2 ⟨hi_29_2, hi_29_3⟩ ⟨hi_29_6, hi_29_7⟩ h5 h6 h7 h8 h9 h10 h11 h12 (by show 0 ≤ (g_25 0).toInt; omega) (by show (g_25 0).toInt ≤ 20000; omega) a_paths (show LW 0 0 (mf 31) (mf 32) (mf 28) (mf 29) (mf 30) ((mf 27) 0).toInt 400 from lf_law0) (show LW 16 400 (mf 31) (mf 32) (mf 28) (mf 29) (mf 30) ((mf 27) 1).toInt 400 from lf_law1) (show rndOK (mi 49).toInt (mi 6).toInt (mf 50) from lf_round)) (gdV q_1835 q_1837 q_91 q_162 q_1838) hdV_X12_goesBy ⟨rfl, rfl⟩ ⟨(Nat.le_of_ble_eq_true rfl), (Nat.le_of_ble_eq_true rfl)⟩ ⟨(Nat.le_of_ble_eq_true rfl), (Nat.le_of_ble_eq_true rfl)⟩ 12 rfl rfl rfl rfl hl32.1 rfl (Nat.le_of_ble_eq_true rfl) dX12_goesFor_27) (fun r_49 u_48 H1 locs hp hw50 => ?_)
        obtain ⟨gnow_51, gfarOf_52, gasked_53, gstack_54, gbook_55⟩ := u_48
        generalize H1 = H at hw50 ⊢
        have hw56 : WD D A s.heap (MW cI cJ M mr (upd (upd (upd (upd mi 5 nisThought_8) 56 x_22) 57 x_23) 58 x_24) (va_up (va_up (va_up (va_up (va_up (va_up mf 1 gnow_51) 4 gwaiting_7) 16 gbook_55) 53 gasked_53) 54 gstack_54) 55 gfarOf_52) mg) H locs := hw50
        obtain ⟨hp_57, hp_58, hp_59, hp_60, hp_61, hp_62, hp_63, hp_64, hp_65, hp_66⟩ := hp
        have hp_57 : 0 ≤ r_49.toInt := hp_57
        have hp_58 : r_49.toInt ≤ 1 := hp_58
        have hp_59 : 0 ≤ (gnow_51 2).toInt := hp_59
        have hp_60 : (gnow_51 2).toInt ≤ 150 := hp_60
        have hp_61 : 0 ≤ (gnow_51 5).toInt := hp_61
        have hp_62 : (gnow_51 5).toInt ≤ 200 := hp_62
        have hp_63 : 0 ≤ (gnow_51 3).toInt := hp_63
        have hp_64 : (gnow_51 3).toInt + 1 ≤ (mi 6).toInt := hp_64
        have hp_65 : (gnow_51 0).toInt = (g_25 0).toInt + 1 := hp_65
        have hp_66 : (nisThought_8.toInt = 0 → gnow_51 1 = fw1 (mi 12).toInt (g_25 1)) := hp_66
        refine lv_if_ne (pc := 30) (tgt := 43) E.1 E.2.1 dX12_goesFor_30 (by decide) (fun c_67 => ?_) (fun c_67 => ?_)
        · skip
          have hc_67 := neE (a := r_49.toInt) (b := 0) rfl (by decide +kernel) c_67
          refine lv_iconst (pc := 43) (v := 0) E.1 E.2.1 dX12_goesFor_43 (by decide +kernel) ?_
          refine lv_istore_n (pc := 44) (lv' := [(3, .int 0), (2, .int x_21), (0, .ref M), (1, .int z_n)]) E.1 E.2.1 dX12_goesFor_44 rfl hl32 (by decide) rfl (fun ls hl68 => ?_)
          have loop_69 : ∀ (k : Nat) (x_70 : Int32) (x_71 : Int32) (x_72 : Int32) (H : Heap) (locs : List Loc) (ls : Array Slot), (0 ≤ x_70.toInt) ∧ (x_70.toInt ≤ (mi 44).toInt) → (mi 44).toInt - x_70.toInt < (k : Int) → WD D A s.heap (MW cI cJ M mr (upd (upd (upd (upd mi 5 nisThought_8) 56 x_22) 57 x_71) 58 x_72) (va_up (va_up (va_up (va_up (va_up (va_up mf 1 gnow_51) 4 gwaiting_7) 16 gbook_55) 53 gasked_53) 54 gstack_54) 55 gfarOf_52) mg) H locs → lv_has ls 4 [(3, .int x_70), (2, .int x_21), (0, .ref M), (1, .int z_n)] → W p l e ({ frames := 8, cells := 0, slots := 0, locals := 201 } : Room) s m ([.ref M, .int z_n] : List Value).toArray below meth c H locs 0 0 (MQ below (va_Qi (fun (r : Int32) (u : (Nat → Int32) × (Nat → Int32) × Int32 × Int32 × Int32 × Int32 × (Nat → Int32) × (Nat → Int32) × (Nat → Int32) × (Nat → Int32)) => ((u.1 2).toInt = ((mf 1) 2).toInt) ∧ ((u.1 3).toInt = ((mf 1) 3).toInt) ∧ ((u.1 5).toInt = ((mf 1) 5).toInt) ∧ (u.2.2.1.toInt = 0) ∧ ((u.1 0).toInt = ((mf 1) 0).toInt) ∧ ((u.1 1).toInt = ((mf 1) 1).toInt)) (fun u => QW D cI cJ A ((fun (u : (Nat → Int32) × (Nat → Int32) × Int32 × Int32 × Int32 × Int32 × (Nat → Int32) × (Nat → Int32) × (Nat → Int32) × (Nat → Int32)) => (MW cI cJ M mr (upd (upd (upd (upd mi 5 u.2.2.1) 56 u.2.2.2.1) 57 u.2.2.2.2.1) 58 u.2.2.2.2.2.1) (va_up (va_up (va_up (va_up (va_up (va_up mf 1 u.1) 4 u.2.1) 55 u.2.2.2.2.2.2.1) 53 u.2.2.2.2.2.2.2.1) 54 u.2.2.2.2.2.2.2.2.1) 16 u.2.2.2.2.2.2.2.2.2) mg)) u)) A) ([.ref M, .int z_n] : List Value).toArray s 0 0 A) (F0 m 45 ls []) := by
            intro k
            induction k with
            | zero =>
              intro x_70 x_71 x_72 _ _ _ hinv hm
              obtain ⟨hi_72_0, hi_72_1⟩ := hinv
              exact absurd hm (by omega)
            | succ k ih_73 =>
              intro x_70 x_71 x_72 H locs ls hinv hm hw74 hl75
              obtain ⟨hi_72_0, hi_72_1⟩ := hinv
              refine lv_iload_n (pc := 45) E.1 E.2.1 dX12_goesFor_45 rfl (lv_at hl75 0 rfl) ?_
              refine lv_aload_n (pc := 46) E.1 E.2.1 dX12_goesFor_46 rfl (lv_at hl75 2 rfl) ?_
              refine x_get (pc := 47) (T := TX12) (N := 70) (ci := 12) (v := .int (mi 44)) E hw74 inX12 0 44 q_1443 rfl rfl (by decide) rfl rfl dX12_goesFor_47 ?_
              refine lv_icmp_ge (pc := 50) (tgt := 124) E.1 E.2.1 dX12_goesFor_50 (by decide) (fun c_76 => ?_) (fun c_76 => ?_)
              · skip
                have hc_76 := leE (a := (mi 44).toInt) (b := x_70.toInt) rfl rfl c_76
                obtain ⟨v_77, ev_77⟩ : ∃ z : Int32, x_21 + Int32.ofInt (1) = z := ⟨_, rfl⟩
                have hv_77 : v_77.toInt = x_21.toInt + (1) := by rw [← ev_77]; exact incE rfl (by decide) (by omega)
                refine lv_iinc (pc := 124) (v := v_77) (lv' := [(2, .int v_77), (3, .int x_70), (0, .ref M), (1, .int z_n)]) E.1 E.2.1 dX12_goesFor_124 hl75 (k := 1) rfl ev_77 (by decide) rfl (fun ls hl78 => ?_)
                refine lv_goto (pc := 127) (tgt := 21) E.1 E.2.1 dX12_goesFor_127 (by decide) ?_
                exact ih_30 v_77 x_22 x_71 x_72 gnow_51 gfarOf_52 gasked_53 gstack_54 gbook_55 _ _ _ ⟨(by show 0 ≤ v_77.toInt; omega), (by show v_77.toInt ≤ z_n.toInt; omega), hp_59, hp_60, hp_63, hp_64, hp_61, hp_62, (by show (gnow_51 0).toInt = ((mf 1) 0).toInt + v_77.toInt; omega)⟩ (by omega) hw74 (lv_sub hl78 [0, 2, 3] rfl)
              · skip
                have hc_76 := nleE (a := (mi 44).toInt) (b := x_70.toInt) rfl rfl c_76
                refine lv_aload_n (pc := 53) E.1 E.2.1 dX12_goesFor_53 rfl (lv_at hl75 2 rfl) ?_
                refine x_get (pc := 54) (T := TX12) (N := 70) (ci := 12) (v := .ref (mr 1)) E hw74 inX12 0 1 q_1400 rfl rfl (by decide) rfl rfl dX12_goesFor_54 ?_
                refine lv_bipush (pc := 57) (v := 56) E.1 E.2.1 dX12_goesFor_57 (by decide +kernel) ?_
                refine lv_iload_n (pc := 59) E.1 E.2.1 dX12_goesFor_59 rfl (lv_at hl75 0 rfl) ?_
                refine lv_iadd (pc := 60) E.1 E.2.1 dX12_goesFor_60 ?_
                refine lv_topi (fun v_79 ev_79 => ?_)
                have hv_79 : v_79.toInt = 56 + x_70.toInt := by rw [ev_79]; exact addE (by decide +kernel) rfl (by omega)
                refine x_iald (pc := 61) (f := gnow_51) E hw74 1 rfl (inbE (a := v_79.toInt) rfl (by omega)) dX12_goesFor_61 ?_
                refine lv_topi (fun v_80 ev_80 => ?_)
                refine lv_if_eq (pc := 62) (tgt := 118) E.1 E.2.1 dX12_goesFor_62 (by decide) (fun c_81 => ?_) (fun c_81 => ?_)
                · skip
                  have hc_81 := eqE (a := v_80.toInt) (b := 0) rfl (by decide +kernel) c_81
                  obtain ⟨v_82, ev_82⟩ : ∃ z : Int32, x_70 + Int32.ofInt (1) = z := ⟨_, rfl⟩
                  have hv_82 : v_82.toInt = x_70.toInt + (1) := by rw [← ev_82]; exact incE rfl (by decide) (by omega)
                  refine lv_iinc (pc := 118) (v := v_82) (lv' := [(3, .int v_82), (2, .int x_21), (0, .ref M), (1, .int z_n)]) E.1 E.2.1 dX12_goesFor_118 hl75 (k := 0) rfl ev_82 (by decide) rfl (fun ls hl83 => ?_)
                  refine lv_goto (pc := 121) (tgt := 45) E.1 E.2.1 dX12_goesFor_121 (by decide) ?_
                  exact ih_73 v_82 x_71 x_72 _ _ _ ⟨(by show 0 ≤ v_82.toInt; omega), (by show v_82.toInt ≤ (mi 44).toInt; omega)⟩ (by omega) hw74 (lv_sub hl83 [0, 1, 2, 3] rfl)
                · skip
                  have hc_81 := neE (a := v_80.toInt) (b := 0) rfl (by decide +kernel) c_81
                  refine lv_aload_n (pc := 65) E.1 E.2.1 dX12_goesFor_65 rfl (lv_at hl75 2 rfl) ?_
                  refine x_get (pc := 66) (T := TX12) (N := 70) (ci := 12) (v := .ref (mr 4)) E hw74 inX12 0 4 q_1403 rfl rfl (by decide) rfl rfl dX12_goesFor_66 ?_
                  refine lv_bipush (pc := 69) (v := 56) E.1 E.2.1 dX12_goesFor_69 (by decide +kernel) ?_
                  refine lv_iload_n (pc := 71) E.1 E.2.1 dX12_goesFor_71 rfl (lv_at hl75 0 rfl) ?_
                  refine lv_iadd (pc := 72) E.1 E.2.1 dX12_goesFor_72 ?_
                  refine lv_topi (fun v_84 ev_84 => ?_)
                  have hv_84 : v_84.toInt = 56 + x_70.toInt := by rw [ev_84]; exact addE (by decide +kernel) rfl (by omega)
                  refine x_iald (pc := 73) (f := gwaiting_7) E hw74 3 rfl (inbE (a := v_84.toInt) rfl (by omega)) dX12_goesFor_73 ?_
                  refine lv_topi (fun v_85 ev_85 => ?_)
                  refine lv_iconst (pc := 74) (v := 1) E.1 E.2.1 dX12_goesFor_74 (by decide +kernel) ?_
                  refine lv_icmp_eq (pc := 75) (tgt := 118) E.1 E.2.1 dX12_goesFor_75 (by decide) (fun c_86 => ?_) (fun c_86 => ?_)
                  · skip
                    have hc_86 := eqE (a := v_85.toInt) (b := 1) rfl (by decide +kernel) c_86
                    obtain ⟨v_87, ev_87⟩ : ∃ z : Int32, x_70 + Int32.ofInt (1) = z := ⟨_, rfl⟩
                    have hv_87 : v_87.toInt = x_70.toInt + (1) := by rw [← ev_87]; exact incE rfl (by decide) (by omega)
                    refine lv_iinc (pc := 118) (v := v_87) (lv' := [(3, .int v_87), (2, .int x_21), (0, .ref M), (1, .int z_n)]) E.1 E.2.1 dX12_goesFor_118 hl75 (k := 0) rfl ev_87 (by decide) rfl (fun ls hl88 => ?_)
                    refine lv_goto (pc := 121) (tgt := 45) E.1 E.2.1 dX12_goesFor_121 (by decide) ?_
                    exact ih_73 v_87 x_71 x_72 _ _ _ ⟨(by show 0 ≤ v_87.toInt; omega), (by show v_87.toInt ≤ (mi 44).toInt; omega)⟩ (by omega) hw74 (lv_sub hl88 [0, 1, 2, 3] rfl)
                  · skip
                    have hc_86 := neE (a := v_85.toInt) (b := 1) rfl (by decide +kernel) c_86
                    refine lv_aload_n (pc := 78) E.1 E.2.1 dX12_goesFor_78 rfl (lv_at hl75 2 rfl) ?_
                    refine x_get (pc := 79) (T := TX12) (N := 70) (ci := 12) (v := .int x_71) E hw74 inX12 0 57 q_1456 rfl rfl (by decide) rfl rfl dX12_goesFor_79 ?_
                    refine lv_iload_n (pc := 82) E.1 E.2.1 dX12_goesFor_82 rfl (lv_at hl75 0 rfl) ?_
                    refine lv_ishr (pc := 83) E.1 E.2.1 dX12_goesFor_83 ?_
                    refine lv_topi (fun v_89 ev_89 => ?_)
                    refine lv_iconst (pc := 84) (v := 1) E.1 E.2.1 dX12_goesFor_84 (by decide +kernel) ?_
                    refine lv_iand (pc := 85) E.1 E.2.1 dX12_goesFor_85 ?_
                    refine lv_topi (fun v_90 ev_90 => ?_)
                    refine lv_iconst (pc := 86) (v := 1) E.1 E.2.1 dX12_goesFor_86 (by decide +kernel) ?_
                    refine lv_icmp_ne (pc := 87) (tgt := 93) E.1 E.2.1 dX12_goesFor_87 (by decide) (fun c_91 => ?_) (fun c_91 => ?_)
                    · skip
                      have hc_91 := neE (a := v_90.toInt) (b := 1) rfl (by decide +kernel) c_91
                      refine lv_aload_n (pc := 93) E.1 E.2.1 dX12_goesFor_93 rfl (lv_at hl75 2 rfl) ?_
                      refine x_get (pc := 94) (T := TX12) (N := 70) (ci := 12) (v := .int x_72) E hw74 inX12 0 58 q_1457 rfl rfl (by decide) rfl rfl dX12_goesFor_94 ?_
                      refine lv_iconst (pc := 97) (v := (-1)) E.1 E.2.1 dX12_goesFor_97 (by decide +kernel) ?_
                      refine lv_icmp_ne (pc := 98) (tgt := 106) E.1 E.2.1 dX12_goesFor_98 (by decide) (fun c_92 => ?_) (fun c_92 => ?_)
                      · skip
                        have hc_92 := neE (a := x_72.toInt) (b := (-1)) rfl (by decide +kernel) c_92
                        refine lv_aload_n (pc := 106) E.1 E.2.1 dX12_goesFor_106 rfl (lv_at hl75 2 rfl) ?_
                        refine lv_aload_n (pc := 107) E.1 E.2.1 dX12_goesFor_107 rfl (lv_at hl75 2 rfl) ?_
                        refine x_get (pc := 108) (T := TX12) (N := 70) (ci := 12) (v := .int x_71) E hw74 inX12 0 57 q_1456 rfl rfl (by decide) rfl rfl dX12_goesFor_108 ?_
                        refine lv_iconst (pc := 111) (v := 1) E.1 E.2.1 dX12_goesFor_111 (by decide +kernel) ?_
                        refine lv_iload_n (pc := 112) E.1 E.2.1 dX12_goesFor_112 rfl (lv_at hl75 0 rfl) ?_
                        refine lv_ishl (pc := 113) E.1 E.2.1 dX12_goesFor_113 ?_
                        refine lv_topi (fun v_93 ev_93 => ?_)
                        have hb1v_93 : 1 ≤ v_93.toInt ∧ v_93.toInt ≤ 512 := by rw [ev_93]; exact shl9 (by omega)
                        refine lv_ior (pc := 114) E.1 E.2.1 dX12_goesFor_114 ?_
                        refine lv_topi (fun v_94 ev_94 => ?_)
                        refine x_put (pc := 115) (T := TX12) (N := 70) (ci := 12) (ws' := (MW cI cJ M mr (upd (upd (upd (upd mi 5 nisThought_8) 56 x_22) 57 v_94) 58 x_72) (va_up (va_up (va_up (va_up (va_up (va_up mf 1 gnow_51) 4 gwaiting_7) 16 gbook_55) 53 gasked_53) 54 gstack_54) 55 gfarOf_52) mg)) E hw74 inX12 tyX12_ok nmX12 0 57 q_1456 rfl rfl (by decide) rfl rfl rfl rfl (Nat.le_of_ble_eq_true rfl) rfl dX12_goesFor_115 (fun H locs hw95 => ?_)
                        obtain ⟨v_96, ev_96⟩ : ∃ z : Int32, x_70 + Int32.ofInt (1) = z := ⟨_, rfl⟩
                        have hv_96 : v_96.toInt = x_70.toInt + (1) := by rw [← ev_96]; exact incE rfl (by decide) (by omega)
                        refine lv_iinc (pc := 118) (v := v_96) (lv' := [(3, .int v_96), (2, .int x_21), (0, .ref M), (1, .int z_n)]) E.1 E.2.1 dX12_goesFor_118 hl75 (k := 0) rfl ev_96 (by decide) rfl (fun ls hl97 => ?_)
                        refine lv_goto (pc := 121) (tgt := 45) E.1 E.2.1 dX12_goesFor_121 (by decide) ?_
                        exact ih_73 v_96 v_94 x_72 _ _ _ ⟨(by show 0 ≤ v_96.toInt; omega), (by show v_96.toInt ≤ (mi 44).toInt; omega)⟩ (by omega) hw95 (lv_sub hl97 [0, 1, 2, 3] rfl)
                      · skip
                        have hc_92 := eqE (a := x_72.toInt) (b := (-1)) rfl (by decide +kernel) c_92
                        refine lv_aload_n (pc := 101) E.1 E.2.1 dX12_goesFor_101 rfl (lv_at hl75 2 rfl) ?_
                        refine lv_iload_n (pc := 102) E.1 E.2.1 dX12_goesFor_102 rfl (lv_at hl75 0 rfl) ?_
                        refine x_put (pc := 103) (T := TX12) (N := 70) (ci := 12) (ws' := (MW cI cJ M mr (upd (upd (upd (upd mi 5 nisThought_8) 56 x_22) 57 x_71) 58 x_70) (va_up (va_up (va_up (va_up (va_up (va_up mf 1 gnow_51) 4 gwaiting_7) 16 gbook_55) 53 gasked_53) 54 gstack_54) 55 gfarOf_52) mg)) E hw74 inX12 tyX12_ok nmX12 0 58 q_1457 rfl rfl (by decide) rfl rfl rfl rfl (Nat.le_of_ble_eq_true rfl) rfl dX12_goesFor_103 (fun H locs hw98 => ?_)
                        refine lv_aload_n (pc := 106) E.1 E.2.1 dX12_goesFor_106 rfl (lv_at hl75 2 rfl) ?_
                        refine lv_aload_n (pc := 107) E.1 E.2.1 dX12_goesFor_107 rfl (lv_at hl75 2 rfl) ?_
                        refine x_get (pc := 108) (T := TX12) (N := 70) (ci := 12) (v := .int x_71) E hw98 inX12 0 57 q_1456 rfl rfl (by decide) rfl rfl dX12_goesFor_108 ?_
                        refine lv_iconst (pc := 111) (v := 1) E.1 E.2.1 dX12_goesFor_111 (by decide +kernel) ?_
                        refine lv_iload_n (pc := 112) E.1 E.2.1 dX12_goesFor_112 rfl (lv_at hl75 0 rfl) ?_
                        refine lv_ishl (pc := 113) E.1 E.2.1 dX12_goesFor_113 ?_
                        refine lv_topi (fun v_99 ev_99 => ?_)
                        have hb1v_99 : 1 ≤ v_99.toInt ∧ v_99.toInt ≤ 512 := by rw [ev_99]; exact shl9 (by omega)
                        refine lv_ior (pc := 114) E.1 E.2.1 dX12_goesFor_114 ?_
                        refine lv_topi (fun v_100 ev_100 => ?_)
                        refine x_put (pc := 115) (T := TX12) (N := 70) (ci := 12) (ws' := (MW cI cJ M mr (upd (upd (upd (upd mi 5 nisThought_8) 56 x_22) 57 v_100) 58 x_70) (va_up (va_up (va_up (va_up (va_up (va_up mf 1 gnow_51) 4 gwaiting_7) 16 gbook_55) 53 gasked_53) 54 gstack_54) 55 gfarOf_52) mg)) E hw98 inX12 tyX12_ok nmX12 0 57 q_1456 rfl rfl (by decide) rfl rfl rfl rfl (Nat.le_of_ble_eq_true rfl) rfl dX12_goesFor_115 (fun H locs hw101 => ?_)
                        obtain ⟨v_102, ev_102⟩ : ∃ z : Int32, x_70 + Int32.ofInt (1) = z := ⟨_, rfl⟩
                        have hv_102 : v_102.toInt = x_70.toInt + (1) := by rw [← ev_102]; exact incE rfl (by decide) (by omega)
                        refine lv_iinc (pc := 118) (v := v_102) (lv' := [(3, .int v_102), (2, .int x_21), (0, .ref M), (1, .int z_n)]) E.1 E.2.1 dX12_goesFor_118 hl75 (k := 0) rfl ev_102 (by decide) rfl (fun ls hl103 => ?_)
                        refine lv_goto (pc := 121) (tgt := 45) E.1 E.2.1 dX12_goesFor_121 (by decide) ?_
                        exact ih_73 v_102 v_100 x_70 _ _ _ ⟨(by show 0 ≤ v_102.toInt; omega), (by show v_102.toInt ≤ (mi 44).toInt; omega)⟩ (by omega) hw101 (lv_sub hl103 [0, 1, 2, 3] rfl)
                    · skip
                      have hc_91 := eqE (a := v_90.toInt) (b := 1) rfl (by decide +kernel) c_91
                      refine lv_goto (pc := 90) (tgt := 118) E.1 E.2.1 dX12_goesFor_90 (by decide) ?_
                      obtain ⟨v_104, ev_104⟩ : ∃ z : Int32, x_70 + Int32.ofInt (1) = z := ⟨_, rfl⟩
                      have hv_104 : v_104.toInt = x_70.toInt + (1) := by rw [← ev_104]; exact incE rfl (by decide) (by omega)
                      refine lv_iinc (pc := 118) (v := v_104) (lv' := [(3, .int v_104), (2, .int x_21), (0, .ref M), (1, .int z_n)]) E.1 E.2.1 dX12_goesFor_118 hl75 (k := 0) rfl ev_104 (by decide) rfl (fun ls hl105 => ?_)
                      refine lv_goto (pc := 121) (tgt := 45) E.1 E.2.1 dX12_goesFor_121 (by decide) ?_
                      exact ih_73 v_104 x_71 x_72 _ _ _ ⟨(by show 0 ≤ v_104.toInt; omega), (by show v_104.toInt ≤ (mi 44).toInt; omega)⟩ (by omega) hw74 (lv_sub hl105 [0, 1, 2, 3] rfl)
          exact loop_69 (Int.toNat ((mi 44).toInt - 0) + 1) 0 x_23 x_24 _ _ _ ⟨(by show 0 ≤ (0 : Int32).toInt; have k_0 : (0 : Int32).toInt = 0 := (by decide +kernel); omega), (by show (0 : Int32).toInt ≤ (mi 44).toInt; have k_0 : (0 : Int32).toInt = 0 := (by decide +kernel); omega)⟩ (by have k_0 : (0 : Int32).toInt = 0 := (by decide +kernel); omega) hw56 (lv_sub hl68 [0, 1, 2, 3] rfl)
        · skip
          have hc_67 := eqE (a := r_49.toInt) (b := 0) rfl (by decide +kernel) c_67
          refine lv_aload_n (pc := 33) E.1 E.2.1 dX12_goesFor_33 rfl (lv_at hl32 1 rfl) ?_
          refine lv_aload_n (pc := 34) E.1 E.2.1 dX12_goesFor_34 rfl (lv_at hl32 1 rfl) ?_
          refine x_get (pc := 35) (T := TX12) (N := 70) (ci := 12) (v := .int x_22) E hw56 inX12 0 56 q_1455 rfl rfl (by decide) rfl rfl dX12_goesFor_35 ?_
          refine lv_iconst (pc := 38) (v := 1) E.1 E.2.1 dX12_goesFor_38 (by decide +kernel) ?_
          refine lv_iadd (pc := 39) E.1 E.2.1 dX12_goesFor_39 ?_
          refine lv_topi (fun v_106 ev_106 => ?_)
          refine x_put (pc := 40) (T := TX12) (N := 70) (ci := 12) (ws' := (MW cI cJ M mr (upd (upd (upd (upd mi 5 nisThought_8) 56 v_106) 57 x_23) 58 x_24) (va_up (va_up (va_up (va_up (va_up (va_up mf 1 gnow_51) 4 gwaiting_7) 16 gbook_55) 53 gasked_53) 54 gstack_54) 55 gfarOf_52) mg)) E hw56 inX12 tyX12_ok nmX12 0 56 q_1455 rfl rfl (by decide) rfl rfl rfl rfl (Nat.le_of_ble_eq_true rfl) rfl dX12_goesFor_40 (fun H locs hw107 => ?_)
          refine lv_iconst (pc := 43) (v := 0) E.1 E.2.1 dX12_goesFor_43 (by decide +kernel) ?_
          refine lv_istore_n (pc := 44) (lv' := [(3, .int 0), (2, .int x_21), (0, .ref M), (1, .int z_n)]) E.1 E.2.1 dX12_goesFor_44 rfl hl32 (by decide) rfl (fun ls hl108 => ?_)
          have loop_109 : ∀ (k : Nat) (x_110 : Int32) (x_111 : Int32) (x_112 : Int32) (H : Heap) (locs : List Loc) (ls : Array Slot), (0 ≤ x_110.toInt) ∧ (x_110.toInt ≤ (mi 44).toInt) → (mi 44).toInt - x_110.toInt < (k : Int) → WD D A s.heap (MW cI cJ M mr (upd (upd (upd (upd mi 5 nisThought_8) 56 v_106) 57 x_111) 58 x_112) (va_up (va_up (va_up (va_up (va_up (va_up mf 1 gnow_51) 4 gwaiting_7) 16 gbook_55) 53 gasked_53) 54 gstack_54) 55 gfarOf_52) mg) H locs → lv_has ls 4 [(3, .int x_110), (2, .int x_21), (0, .ref M), (1, .int z_n)] → W p l e ({ frames := 8, cells := 0, slots := 0, locals := 201 } : Room) s m ([.ref M, .int z_n] : List Value).toArray below meth c H locs 0 0 (MQ below (va_Qi (fun (r : Int32) (u : (Nat → Int32) × (Nat → Int32) × Int32 × Int32 × Int32 × Int32 × (Nat → Int32) × (Nat → Int32) × (Nat → Int32) × (Nat → Int32)) => ((u.1 2).toInt = ((mf 1) 2).toInt) ∧ ((u.1 3).toInt = ((mf 1) 3).toInt) ∧ ((u.1 5).toInt = ((mf 1) 5).toInt) ∧ (u.2.2.1.toInt = 0) ∧ ((u.1 0).toInt = ((mf 1) 0).toInt) ∧ ((u.1 1).toInt = ((mf 1) 1).toInt)) (fun u => QW D cI cJ A ((fun (u : (Nat → Int32) × (Nat → Int32) × Int32 × Int32 × Int32 × Int32 × (Nat → Int32) × (Nat → Int32) × (Nat → Int32) × (Nat → Int32)) => (MW cI cJ M mr (upd (upd (upd (upd mi 5 u.2.2.1) 56 u.2.2.2.1) 57 u.2.2.2.2.1) 58 u.2.2.2.2.2.1) (va_up (va_up (va_up (va_up (va_up (va_up mf 1 u.1) 4 u.2.1) 55 u.2.2.2.2.2.2.1) 53 u.2.2.2.2.2.2.2.1) 54 u.2.2.2.2.2.2.2.2.1) 16 u.2.2.2.2.2.2.2.2.2) mg)) u)) A) ([.ref M, .int z_n] : List Value).toArray s 0 0 A) (F0 m 45 ls []) := by
            intro k
            induction k with
            | zero =>
              intro x_110 x_111 x_112 _ _ _ hinv hm
              obtain ⟨hi_112_0, hi_112_1⟩ := hinv
              exact absurd hm (by omega)
            | succ k ih_113 =>
              intro x_110 x_111 x_112 H locs ls hinv hm hw114 hl115
              obtain ⟨hi_112_0, hi_112_1⟩ := hinv
              refine lv_iload_n (pc := 45) E.1 E.2.1 dX12_goesFor_45 rfl (lv_at hl115 0 rfl) ?_
              refine lv_aload_n (pc := 46) E.1 E.2.1 dX12_goesFor_46 rfl (lv_at hl115 2 rfl) ?_
              refine x_get (pc := 47) (T := TX12) (N := 70) (ci := 12) (v := .int (mi 44)) E hw114 inX12 0 44 q_1443 rfl rfl (by decide) rfl rfl dX12_goesFor_47 ?_
              refine lv_icmp_ge (pc := 50) (tgt := 124) E.1 E.2.1 dX12_goesFor_50 (by decide) (fun c_116 => ?_) (fun c_116 => ?_)
              · skip
                have hc_116 := leE (a := (mi 44).toInt) (b := x_110.toInt) rfl rfl c_116
                obtain ⟨v_117, ev_117⟩ : ∃ z : Int32, x_21 + Int32.ofInt (1) = z := ⟨_, rfl⟩
                have hv_117 : v_117.toInt = x_21.toInt + (1) := by rw [← ev_117]; exact incE rfl (by decide) (by omega)
                refine lv_iinc (pc := 124) (v := v_117) (lv' := [(2, .int v_117), (3, .int x_110), (0, .ref M), (1, .int z_n)]) E.1 E.2.1 dX12_goesFor_124 hl115 (k := 1) rfl ev_117 (by decide) rfl (fun ls hl118 => ?_)
                refine lv_goto (pc := 127) (tgt := 21) E.1 E.2.1 dX12_goesFor_127 (by decide) ?_
                exact ih_30 v_117 v_106 x_111 x_112 gnow_51 gfarOf_52 gasked_53 gstack_54 gbook_55 _ _ _ ⟨(by show 0 ≤ v_117.toInt; omega), (by show v_117.toInt ≤ z_n.toInt; omega), hp_59, hp_60, hp_63, hp_64, hp_61, hp_62, (by show (gnow_51 0).toInt = ((mf 1) 0).toInt + v_117.toInt; omega)⟩ (by omega) hw114 (lv_sub hl118 [0, 2, 3] rfl)
              · skip
                have hc_116 := nleE (a := (mi 44).toInt) (b := x_110.toInt) rfl rfl c_116
                refine lv_aload_n (pc := 53) E.1 E.2.1 dX12_goesFor_53 rfl (lv_at hl115 2 rfl) ?_
                refine x_get (pc := 54) (T := TX12) (N := 70) (ci := 12) (v := .ref (mr 1)) E hw114 inX12 0 1 q_1400 rfl rfl (by decide) rfl rfl dX12_goesFor_54 ?_
                refine lv_bipush (pc := 57) (v := 56) E.1 E.2.1 dX12_goesFor_57 (by decide +kernel) ?_
                refine lv_iload_n (pc := 59) E.1 E.2.1 dX12_goesFor_59 rfl (lv_at hl115 0 rfl) ?_
                refine lv_iadd (pc := 60) E.1 E.2.1 dX12_goesFor_60 ?_
                refine lv_topi (fun v_119 ev_119 => ?_)
                have hv_119 : v_119.toInt = 56 + x_110.toInt := by rw [ev_119]; exact addE (by decide +kernel) rfl (by omega)
                refine x_iald (pc := 61) (f := gnow_51) E hw114 1 rfl (inbE (a := v_119.toInt) rfl (by omega)) dX12_goesFor_61 ?_
                refine lv_topi (fun v_120 ev_120 => ?_)
                refine lv_if_eq (pc := 62) (tgt := 118) E.1 E.2.1 dX12_goesFor_62 (by decide) (fun c_121 => ?_) (fun c_121 => ?_)
                · skip
                  have hc_121 := eqE (a := v_120.toInt) (b := 0) rfl (by decide +kernel) c_121
                  obtain ⟨v_122, ev_122⟩ : ∃ z : Int32, x_110 + Int32.ofInt (1) = z := ⟨_, rfl⟩
                  have hv_122 : v_122.toInt = x_110.toInt + (1) := by rw [← ev_122]; exact incE rfl (by decide) (by omega)
                  refine lv_iinc (pc := 118) (v := v_122) (lv' := [(3, .int v_122), (2, .int x_21), (0, .ref M), (1, .int z_n)]) E.1 E.2.1 dX12_goesFor_118 hl115 (k := 0) rfl ev_122 (by decide) rfl (fun ls hl123 => ?_)
                  refine lv_goto (pc := 121) (tgt := 45) E.1 E.2.1 dX12_goesFor_121 (by decide) ?_
                  exact ih_113 v_122 x_111 x_112 _ _ _ ⟨(by show 0 ≤ v_122.toInt; omega), (by show v_122.toInt ≤ (mi 44).toInt; omega)⟩ (by omega) hw114 (lv_sub hl123 [0, 1, 2, 3] rfl)
                · skip
                  have hc_121 := neE (a := v_120.toInt) (b := 0) rfl (by decide +kernel) c_121
                  refine lv_aload_n (pc := 65) E.1 E.2.1 dX12_goesFor_65 rfl (lv_at hl115 2 rfl) ?_
                  refine x_get (pc := 66) (T := TX12) (N := 70) (ci := 12) (v := .ref (mr 4)) E hw114 inX12 0 4 q_1403 rfl rfl (by decide) rfl rfl dX12_goesFor_66 ?_
                  refine lv_bipush (pc := 69) (v := 56) E.1 E.2.1 dX12_goesFor_69 (by decide +kernel) ?_
                  refine lv_iload_n (pc := 71) E.1 E.2.1 dX12_goesFor_71 rfl (lv_at hl115 0 rfl) ?_
                  refine lv_iadd (pc := 72) E.1 E.2.1 dX12_goesFor_72 ?_
                  refine lv_topi (fun v_124 ev_124 => ?_)
                  have hv_124 : v_124.toInt = 56 + x_110.toInt := by rw [ev_124]; exact addE (by decide +kernel) rfl (by omega)
                  refine x_iald (pc := 73) (f := gwaiting_7) E hw114 3 rfl (inbE (a := v_124.toInt) rfl (by omega)) dX12_goesFor_73 ?_
                  refine lv_topi (fun v_125 ev_125 => ?_)
                  refine lv_iconst (pc := 74) (v := 1) E.1 E.2.1 dX12_goesFor_74 (by decide +kernel) ?_
                  refine lv_icmp_eq (pc := 75) (tgt := 118) E.1 E.2.1 dX12_goesFor_75 (by decide) (fun c_126 => ?_) (fun c_126 => ?_)
                  · skip
                    have hc_126 := eqE (a := v_125.toInt) (b := 1) rfl (by decide +kernel) c_126
                    obtain ⟨v_127, ev_127⟩ : ∃ z : Int32, x_110 + Int32.ofInt (1) = z := ⟨_, rfl⟩
                    have hv_127 : v_127.toInt = x_110.toInt + (1) := by rw [← ev_127]; exact incE rfl (by decide) (by omega)
                    refine lv_iinc (pc := 118) (v := v_127) (lv' := [(3, .int v_127), (2, .int x_21), (0, .ref M), (1, .int z_n)]) E.1 E.2.1 dX12_goesFor_118 hl115 (k := 0) rfl ev_127 (by decide) rfl (fun ls hl128 => ?_)
                    refine lv_goto (pc := 121) (tgt := 45) E.1 E.2.1 dX12_goesFor_121 (by decide) ?_
                    exact ih_113 v_127 x_111 x_112 _ _ _ ⟨(by show 0 ≤ v_127.toInt; omega), (by show v_127.toInt ≤ (mi 44).toInt; omega)⟩ (by omega) hw114 (lv_sub hl128 [0, 1, 2, 3] rfl)
                  · skip
                    have hc_126 := neE (a := v_125.toInt) (b := 1) rfl (by decide +kernel) c_126
                    refine lv_aload_n (pc := 78) E.1 E.2.1 dX12_goesFor_78 rfl (lv_at hl115 2 rfl) ?_
                    refine x_get (pc := 79) (T := TX12) (N := 70) (ci := 12) (v := .int x_111) E hw114 inX12 0 57 q_1456 rfl rfl (by decide) rfl rfl dX12_goesFor_79 ?_
                    refine lv_iload_n (pc := 82) E.1 E.2.1 dX12_goesFor_82 rfl (lv_at hl115 0 rfl) ?_
                    refine lv_ishr (pc := 83) E.1 E.2.1 dX12_goesFor_83 ?_
                    refine lv_topi (fun v_129 ev_129 => ?_)
                    refine lv_iconst (pc := 84) (v := 1) E.1 E.2.1 dX12_goesFor_84 (by decide +kernel) ?_
                    refine lv_iand (pc := 85) E.1 E.2.1 dX12_goesFor_85 ?_
                    refine lv_topi (fun v_130 ev_130 => ?_)
                    refine lv_iconst (pc := 86) (v := 1) E.1 E.2.1 dX12_goesFor_86 (by decide +kernel) ?_
                    refine lv_icmp_ne (pc := 87) (tgt := 93) E.1 E.2.1 dX12_goesFor_87 (by decide) (fun c_131 => ?_) (fun c_131 => ?_)
                    · skip
                      have hc_131 := neE (a := v_130.toInt) (b := 1) rfl (by decide +kernel) c_131
                      refine lv_aload_n (pc := 93) E.1 E.2.1 dX12_goesFor_93 rfl (lv_at hl115 2 rfl) ?_
                      refine x_get (pc := 94) (T := TX12) (N := 70) (ci := 12) (v := .int x_112) E hw114 inX12 0 58 q_1457 rfl rfl (by decide) rfl rfl dX12_goesFor_94 ?_
                      refine lv_iconst (pc := 97) (v := (-1)) E.1 E.2.1 dX12_goesFor_97 (by decide +kernel) ?_
                      refine lv_icmp_ne (pc := 98) (tgt := 106) E.1 E.2.1 dX12_goesFor_98 (by decide) (fun c_132 => ?_) (fun c_132 => ?_)
                      · skip
                        have hc_132 := neE (a := x_112.toInt) (b := (-1)) rfl (by decide +kernel) c_132
                        refine lv_aload_n (pc := 106) E.1 E.2.1 dX12_goesFor_106 rfl (lv_at hl115 2 rfl) ?_
                        refine lv_aload_n (pc := 107) E.1 E.2.1 dX12_goesFor_107 rfl (lv_at hl115 2 rfl) ?_
                        refine x_get (pc := 108) (T := TX12) (N := 70) (ci := 12) (v := .int x_111) E hw114 inX12 0 57 q_1456 rfl rfl (by decide) rfl rfl dX12_goesFor_108 ?_
                        refine lv_iconst (pc := 111) (v := 1) E.1 E.2.1 dX12_goesFor_111 (by decide +kernel) ?_
                        refine lv_iload_n (pc := 112) E.1 E.2.1 dX12_goesFor_112 rfl (lv_at hl115 0 rfl) ?_
                        refine lv_ishl (pc := 113) E.1 E.2.1 dX12_goesFor_113 ?_
                        refine lv_topi (fun v_133 ev_133 => ?_)
                        have hb1v_133 : 1 ≤ v_133.toInt ∧ v_133.toInt ≤ 512 := by rw [ev_133]; exact shl9 (by omega)
                        refine lv_ior (pc := 114) E.1 E.2.1 dX12_goesFor_114 ?_
                        refine lv_topi (fun v_134 ev_134 => ?_)
                        refine x_put (pc := 115) (T := TX12) (N := 70) (ci := 12) (ws' := (MW cI cJ M mr (upd (upd (upd (upd mi 5 nisThought_8) 56 v_106) 57 v_134) 58 x_112) (va_up (va_up (va_up (va_up (va_up (va_up mf 1 gnow_51) 4 gwaiting_7) 16 gbook_55) 53 gasked_53) 54 gstack_54) 55 gfarOf_52) mg)) E hw114 inX12 tyX12_ok nmX12 0 57 q_1456 rfl rfl (by decide) rfl rfl rfl rfl (Nat.le_of_ble_eq_true rfl) rfl dX12_goesFor_115 (fun H locs hw135 => ?_)
                        obtain ⟨v_136, ev_136⟩ : ∃ z : Int32, x_110 + Int32.ofInt (1) = z := ⟨_, rfl⟩
                        have hv_136 : v_136.toInt = x_110.toInt + (1) := by rw [← ev_136]; exact incE rfl (by decide) (by omega)
                        refine lv_iinc (pc := 118) (v := v_136) (lv' := [(3, .int v_136), (2, .int x_21), (0, .ref M), (1, .int z_n)]) E.1 E.2.1 dX12_goesFor_118 hl115 (k := 0) rfl ev_136 (by decide) rfl (fun ls hl137 => ?_)
                        refine lv_goto (pc := 121) (tgt := 45) E.1 E.2.1 dX12_goesFor_121 (by decide) ?_
                        exact ih_113 v_136 v_134 x_112 _ _ _ ⟨(by show 0 ≤ v_136.toInt; omega), (by show v_136.toInt ≤ (mi 44).toInt; omega)⟩ (by omega) hw135 (lv_sub hl137 [0, 1, 2, 3] rfl)
                      · skip
                        have hc_132 := eqE (a := x_112.toInt) (b := (-1)) rfl (by decide +kernel) c_132
                        refine lv_aload_n (pc := 101) E.1 E.2.1 dX12_goesFor_101 rfl (lv_at hl115 2 rfl) ?_
                        refine lv_iload_n (pc := 102) E.1 E.2.1 dX12_goesFor_102 rfl (lv_at hl115 0 rfl) ?_
                        refine x_put (pc := 103) (T := TX12) (N := 70) (ci := 12) (ws' := (MW cI cJ M mr (upd (upd (upd (upd mi 5 nisThought_8) 56 v_106) 57 x_111) 58 x_110) (va_up (va_up (va_up (va_up (va_up (va_up mf 1 gnow_51) 4 gwaiting_7) 16 gbook_55) 53 gasked_53) 54 gstack_54) 55 gfarOf_52) mg)) E hw114 inX12 tyX12_ok nmX12 0 58 q_1457 rfl rfl (by decide) rfl rfl rfl rfl (Nat.le_of_ble_eq_true rfl) rfl dX12_goesFor_103 (fun H locs hw138 => ?_)
                        refine lv_aload_n (pc := 106) E.1 E.2.1 dX12_goesFor_106 rfl (lv_at hl115 2 rfl) ?_
                        refine lv_aload_n (pc := 107) E.1 E.2.1 dX12_goesFor_107 rfl (lv_at hl115 2 rfl) ?_
                        refine x_get (pc := 108) (T := TX12) (N := 70) (ci := 12) (v := .int x_111) E hw138 inX12 0 57 q_1456 rfl rfl (by decide) rfl rfl dX12_goesFor_108 ?_
                        refine lv_iconst (pc := 111) (v := 1) E.1 E.2.1 dX12_goesFor_111 (by decide +kernel) ?_
                        refine lv_iload_n (pc := 112) E.1 E.2.1 dX12_goesFor_112 rfl (lv_at hl115 0 rfl) ?_
                        refine lv_ishl (pc := 113) E.1 E.2.1 dX12_goesFor_113 ?_
                        refine lv_topi (fun v_139 ev_139 => ?_)
                        have hb1v_139 : 1 ≤ v_139.toInt ∧ v_139.toInt ≤ 512 := by rw [ev_139]; exact shl9 (by omega)
                        refine lv_ior (pc := 114) E.1 E.2.1 dX12_goesFor_114 ?_
                        refine lv_topi (fun v_140 ev_140 => ?_)
                        refine x_put (pc := 115) (T := TX12) (N := 70) (ci := 12) (ws' := (MW cI cJ M mr (upd (upd (upd (upd mi 5 nisThought_8) 56 v_106) 57 v_140) 58 x_110) (va_up (va_up (va_up (va_up (va_up (va_up mf 1 gnow_51) 4 gwaiting_7) 16 gbook_55) 53 gasked_53) 54 gstack_54) 55 gfarOf_52) mg)) E hw138 inX12 tyX12_ok nmX12 0 57 q_1456 rfl rfl (by decide) rfl rfl rfl rfl (Nat.le_of_ble_eq_true rfl) rfl dX12_goesFor_115 (fun H locs hw141 => ?_)
                        obtain ⟨v_142, ev_142⟩ : ∃ z : Int32, x_110 + Int32.ofInt (1) = z := ⟨_, rfl⟩
                        have hv_142 : v_142.toInt = x_110.toInt + (1) := by rw [← ev_142]; exact incE rfl (by decide) (by omega)
                        refine lv_iinc (pc := 118) (v := v_142) (lv' := [(3, .int v_142), (2, .int x_21), (0, .ref M), (1, .int z_n)]) E.1 E.2.1 dX12_goesFor_118 hl115 (k := 0) rfl ev_142 (by decide) rfl (fun ls hl143 => ?_)
                        refine lv_goto (pc := 121) (tgt := 45) E.1 E.2.1 dX12_goesFor_121 (by decide) ?_
                        exact ih_113 v_142 v_140 x_110 _ _ _ ⟨(by show 0 ≤ v_142.toInt; omega), (by show v_142.toInt ≤ (mi 44).toInt; omega)⟩ (by omega) hw141 (lv_sub hl143 [0, 1, 2, 3] rfl)
                    · skip
                      have hc_131 := eqE (a := v_130.toInt) (b := 1) rfl (by decide +kernel) c_131
                      refine lv_goto (pc := 90) (tgt := 118) E.1 E.2.1 dX12_goesFor_90 (by decide) ?_
                      obtain ⟨v_144, ev_144⟩ : ∃ z : Int32, x_110 + Int32.ofInt (1) = z := ⟨_, rfl⟩
                      have hv_144 : v_144.toInt = x_110.toInt + (1) := by rw [← ev_144]; exact incE rfl (by decide) (by omega)
                      refine lv_iinc (pc := 118) (v := v_144) (lv' := [(3, .int v_144), (2, .int x_21), (0, .ref M), (1, .int z_n)]) E.1 E.2.1 dX12_goesFor_118 hl115 (k := 0) rfl ev_144 (by decide) rfl (fun ls hl145 => ?_)
                      refine lv_goto (pc := 121) (tgt := 45) E.1 E.2.1 dX12_goesFor_121 (by decide) ?_
                      exact ih_113 v_144 x_111 x_112 _ _ _ ⟨(by show 0 ≤ v_144.toInt; omega), (by show v_144.toInt ≤ (mi 44).toInt; omega)⟩ (by omega) hw114 (lv_sub hl145 [0, 1, 2, 3] rfl)
          exact loop_109 (Int.toNat ((mi 44).toInt - 0) + 1) 0 x_23 x_24 _ _ _ ⟨(by show 0 ≤ (0 : Int32).toInt; have k_0 : (0 : Int32).toInt = 0 := (by decide +kernel); omega), (by show (0 : Int32).toInt ≤ (mi 44).toInt; have k_0 : (0 : Int32).toInt = 0 := (by decide +kernel); omega)⟩ (by have k_0 : (0 : Int32).toInt = 0 := (by decide +kernel); omega) hw107 (lv_sub hl108 [0, 1, 2, 3] rfl)
  exact loop_20 (Int.toNat (z_n.toInt - 0) + 1) 0 0 0 (-1) (mf 1) (mf 55) (mf 53) (mf 54) (mf 16) _ _ _ ⟨(by show 0 ≤ (0 : Int32).toInt; have k_0 : (0 : Int32).toInt = 0 := (by decide +kernel); omega), (by show (0 : Int32).toInt ≤ z_n.toInt; have k_0 : (0 : Int32).toInt = 0 := (by decide +kernel); omega), h3.1, h3.2, h0, h1, h4.1, h4.2, (by show ((mf 1) 0).toInt = ((mf 1) 0).toInt + (0 : Int32).toInt; have k_0 : (0 : Int32).toInt = 0 := (by decide +kernel); omega)⟩ (by have k_0 : (0 : Int32).toInt = 0 := (by decide +kernel); have k_1 : (0 : Int32).toInt = 0 := (by decide +kernel); have k_2 : (0 : Int32).toInt = 0 := (by decide +kernel); have k_3 : ((-1) : Int32).toInt = -1 := (by decide +kernel); omega) hw18 (lv_sub hl19 [0, 1, 2] rfl)
