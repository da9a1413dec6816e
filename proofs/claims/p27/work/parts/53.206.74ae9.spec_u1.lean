set_option maxHeartbeats 4000000 in
set_option maxRecDepth 100000 in
theorem s_goesForU (l : Launch) (D : va_G) (cI cJ : ClassId) (sz M : Nat) (mr : Nat → Nat) (mi : Nat → Int32) (mf : Nat → Nat → Int32) (mg : Nat → Nat → Int64) (z_n : Int32) (h0 : 0 ≤ ((mf 1) 3).toInt) (h1 : ((mf 1) 3).toInt + 1 ≤ (mi 6).toInt) (h2 : (mi 6).toInt ≤ 10) (h3 : 0 ≤ ((mf 1) 2).toInt ∧ ((mf 1) 2).toInt ≤ 150) (h4 : 0 ≤ ((mf 1) 5).toInt ∧ ((mf 1) 5).toInt ≤ 200) (h5 : 0 ≤ (mi 44).toInt ∧ (mi 44).toInt ≤ 10) (h6 : 0 ≤ (mi 42).toInt ∧ (mi 42).toInt ≤ 40) (h7 : 0 ≤ ((mf 27) 0).toInt) (h8 : ((mf 27) 0).toInt ≤ 16) (h9 : 0 ≤ ((mf 27) 1).toInt) (h10 : ((mf 27) 1).toInt ≤ 16) (h11 : 0 ≤ (mi 49).toInt ∧ (mi 49).toInt ≤ 200) (h12 : (-29) ≤ (mi 15).toInt ∧ (mi 15).toInt ≤ 69) (h13 : 1 ≤ z_n.toInt ∧ z_n.toInt ≤ 99) (h14 : 0 ≤ ((mf 1) 0).toInt) (h15 : ((mf 1) 0).toInt ≤ 9999) (a_paths : pathsOK (mf 43)) (lf_law0 : LW 0 0 (mf 31) (mf 32) (mf 28) (mf 29) (mf 30) ((mf 27) 0).toInt 400) (lf_law1 : LW 16 400 (mf 31) (mf 32) (mf 28) (mf 29) (mf 30) ((mf 27) 1).toInt 400) (lf_round : rndOK (mi 49).toInt (mi 6).toInt (mf 50)) : Met l yX12_goesFor (Cond.code yX12_goesFor cX12_goesFor 4 (some .int) :: GW) ({ frames := 8, cells := 0, slots := 0, locals := 201 } : Room) (va_Pc [.ref M, .int z_n] (PW D cI cJ sz (MW cI cJ M mr mi mf mg) xT)) (va_Qi (fun (r : Int32) (u : (Nat → Int32) × (Nat → Int32) × Int32 × Int32 × Int32 × Int32 × (Nat → Int32) × (Nat → Int32) × (Nat → Int32) × (Nat → Int32)) => ((u.1 2).toInt = ((mf 1) 2).toInt) ∧ ((u.1 3).toInt = ((mf 1) 3).toInt) ∧ ((u.1 5).toInt = ((mf 1) 5).toInt) ∧ (u.2.2.1.toInt = 0) ∧ ((u.1 0).toInt = ((mf 1) 0).toInt)) (fun u => QW D cI cJ (va_A (MW cI cJ M mr mi mf mg) sz) ((fun (u : (Nat → Int32) × (Nat → Int32) × Int32 × Int32 × Int32 × Int32 × (Nat → Int32) × (Nat → Int32) × (Nat → Int32) × (Nat → Int32)) => (MW cI cJ M mr (upd (upd (upd (upd mi 5 u.2.2.1) 56 u.2.2.2.1) 57 u.2.2.2.2.1) 58 u.2.2.2.2.2.1) (va_up (va_up (va_up (va_up (va_up (va_up mf 1 u.1) 4 u.2.1) 55 u.2.2.2.2.2.2.1) 53 u.2.2.2.2.2.2.2.1) 54 u.2.2.2.2.2.2.2.2.1) 16 u.2.2.2.2.2.2.2.2.2) mg)) u)) (va_A (MW cI cJ M mr mi mf mg) sz)) 0 0 (va_A (MW cI cJ M mr mi mf mg) sz) := by
  refine mk_met (y := yX12_goesFor) (bytes := cX12_goesFor) (maxL := 4) (avs := [.ref M, .int z_n]) (WS := (MW cI cJ M mr mi mf mg)) (Qf := fun A => va_Qi (fun (r : Int32) (u : (Nat → Int32) × (Nat → Int32) × Int32 × Int32 × Int32 × Int32 × (Nat → Int32) × (Nat → Int32) × (Nat → Int32) × (Nat → Int32)) => ((u.1 2).toInt = ((mf 1) 2).toInt) ∧ ((u.1 3).toInt = ((mf 1) 3).toInt) ∧ ((u.1 5).toInt = ((mf 1) 5).toInt) ∧ (u.2.2.1.toInt = 0) ∧ ((u.1 0).toInt = ((mf 1) 0).toInt)) (fun u => QW D cI cJ A ((fun (u : (Nat → Int32) × (Nat → Int32) × Int32 × Int32 × Int32 × Int32 × (Nat → Int32) × (Nat → Int32) × (Nat → Int32) × (Nat → Int32)) => (MW cI cJ M mr (upd (upd (upd (upd mi 5 u.2.2.1) 56 u.2.2.2.1) 57 u.2.2.2.2.1) 58 u.2.2.2.2.2.1) (va_up (va_up (va_up (va_up (va_up (va_up mf 1 u.1) 4 u.2.1) 55 u.2.2.2.2.2.2.1) 53 u.2.2.2.2.2.2.2.1) 54 u.2.2.2.2.2.2.2.2.1) 16 u.2.2.2.2.2.2.2.2.2) mg)) u)) A) (by decide) (Nat.le_of_ble_eq_true rfl) ?_
  intro p e s m below meth c A ls E hr hlk hnm hX hw1 hl2
  have hl3 : lv_has ls 4 [(0, .ref M), (1, .int z_n)] := hl2
  refine lv_aload_n (pc := 0) E.1 E.2.1 dX12_goesFor_0 rfl (lv_at hl3 0 rfl) ?_
  refine cm_v (pc := 1) hw1 (rn_M (As := []) (rest := []) E hw1 (s_thinksU l D cI cJ _ M mr mi mf mg ) (gdV q_1978 q_1980 q_122 q_162 q_1981) hdV_X12_thinks ⟨rfl, rfl⟩ ⟨(Nat.le_of_ble_eq_true rfl), (Nat.le_of_ble_eq_true rfl)⟩ ⟨(Nat.le_of_ble_eq_true rfl), (Nat.le_of_ble_eq_true rfl)⟩ 12 rfl rfl rfl rfl hl3.1 rfl (Nat.le_of_ble_eq_true rfl) dX12_goesFor_1) (fun u_4 H1 locs hp hw6 => ?_)
  obtain ⟨gwaiting_7, nisThought_8⟩ := u_4
  generalize H1 = H at hw6 ⊢
  have hw9 : WD D A s.heap (MW cI cJ M mr (upd mi 5 nisThought_8) (va_up mf 4 gwaiting_7) mg) H locs := hw6
  obtain ⟨hp_10, hp_11, hp_12, hp_13, hp_14⟩ := hp
  have hp_10 : nisThought_8.toInt = 1 := hp_10
  have hp_11 : (gwaiting_7 2).toInt = ((mf 1) 2).toInt := hp_11
  have hp_12 : (gwaiting_7 3).toInt = ((mf 1) 3).toInt := hp_12
  have hp_13 : (gwaiting_7 5).toInt = ((mf 1) 5).toInt := hp_13
  have hp_14 : (gwaiting_7 0).toInt = ((mf 1) 0).toInt := hp_14
  refine lv_aload_n (pc := 4) E.1 E.2.1 dX12_goesFor_4 rfl (lv_at hl3 0 rfl) ?_
  refine lv_iconst (pc := 5) (v := 0) E.1 E.2.1 dX12_goesFor_5 (by decide +kernel) ?_
  refine x_put (pc := 6) (T := TX12) (N := 70) (ci := 12) (ws' := (MW cI cJ M mr (upd (upd mi 5 nisThought_8) 56 0) (va_up mf 4 gwaiting_7) mg)) E hw9 inX12 tyX12_ok nmX12 0 56 q_1455 rfl rfl (by decide) rfl rfl rfl rfl (Nat.le_of_ble_eq_true rfl) rfl dX12_goesFor_6 (fun H locs hw15 => ?_)
  refine lv_aload_n (pc := 9) E.1 E.2.1 dX12_goesFor_9 rfl (lv_at hl3 0 rfl) ?_
  refine lv_iconst (pc := 10) (v := 0) E.1 E.2.1 dX12_goesFor_10 (by decide +kernel) ?_
  refine x_put (pc := 11) (T := TX12) (N := 70) (ci := 12) (ws' := (MW cI cJ M mr (upd (upd (upd mi 5 nisThought_8) 56 0) 57 0) (va_up mf 4 gwaiting_7) mg)) E hw15 inX12 tyX12_ok nmX12 0 57 q_1456 rfl rfl (by decide) rfl rfl rfl rfl (Nat.le_of_ble_eq_true rfl) rfl dX12_goesFor_11 (fun H locs hw16 => ?_)
  refine lv_aload_n (pc := 14) E.1 E.2.1 dX12_goesFor_14 rfl (lv_at hl3 0 rfl) ?_
  refine lv_iconst (pc := 15) (v := (-1)) E.1 E.2.1 dX12_goesFor_15 (by decide +kernel) ?_
  refine x_put (pc := 16) (T := TX12) (N := 70) (ci := 12) (ws' := (MW cI cJ M mr (upd (upd (upd (upd mi 5 nisThought_8) 56 0) 57 0) 58 (-1)) (va_up mf 4 gwaiting_7) mg)) E hw16 inX12 tyX12_ok nmX12 0 58 q_1457 rfl rfl (by decide) rfl rfl rfl rfl (Nat.le_of_ble_eq_true rfl) rfl dX12_goesFor_16 (fun H locs hw17 => ?_)
  refine lv_iconst (pc := 19) (v := 0) E.1 E.2.1 dX12_goesFor_19 (by decide +kernel) ?_
  refine lv_istore_n (pc := 20) (lv' := [(2, .int 0), (0, .ref M), (1, .int z_n)]) E.1 E.2.1 dX12_goesFor_20 rfl hl3 (by decide) rfl (fun ls hl18 => ?_)
  have loop_19 : ∀ (k : Nat) (x_20 : Int32) (x_21 : Int32) (x_22 : Int32) (x_23 : Int32) (g_24 : Nat → Int32) (g_25 : Nat → Int32) (g_26 : Nat → Int32) (g_27 : Nat → Int32) (g_28 : Nat → Int32) (H : Heap) (locs : List Loc) (ls : Array Slot), (0 ≤ x_20.toInt) ∧ (x_20.toInt ≤ z_n.toInt) ∧ (0 ≤ (g_24 2).toInt) ∧ ((g_24 2).toInt ≤ 150) ∧ (0 ≤ (g_24 3).toInt) ∧ ((g_24 3).toInt + 1 ≤ (mi 6).toInt) ∧ (0 ≤ (g_24 5).toInt) ∧ ((g_24 5).toInt ≤ 200) ∧ ((g_24 0).toInt = ((mf 1) 0).toInt + x_20.toInt) → z_n.toInt - x_20.toInt < (k : Int) → WD D A s.heap (MW cI cJ M mr (upd (upd (upd (upd mi 5 nisThought_8) 56 x_21) 57 x_22) 58 x_23) (va_up (va_up (va_up (va_up (va_up (va_up mf 1 g_24) 4 gwaiting_7) 16 g_28) 53 g_26) 54 g_27) 55 g_25) mg) H locs → lv_has ls 4 [(2, .int x_20), (0, .ref M), (1, .int z_n)] → W p l e ({ frames := 8, cells := 0, slots := 0, locals := 201 } : Room) s m ([.ref M, .int z_n] : List Value).toArray below meth c H locs 0 0 (MQ below (va_Qi (fun (r : Int32) (u : (Nat → Int32) × (Nat → Int32) × Int32 × Int32 × Int32 × Int32 × (Nat → Int32) × (Nat → Int32) × (Nat → Int32) × (Nat → Int32)) => ((u.1 2).toInt = ((mf 1) 2).toInt) ∧ ((u.1 3).toInt = ((mf 1) 3).toInt) ∧ ((u.1 5).toInt = ((mf 1) 5).toInt) ∧ (u.2.2.1.toInt = 0) ∧ ((u.1 0).toInt = ((mf 1) 0).toInt)) (fun u => QW D cI cJ A ((fun (u : (Nat → Int32) × (Nat → Int32) × Int32 × Int32 × Int32 × Int32 × (Nat → Int32) × (Nat → Int32) × (Nat → Int32) × (Nat → Int32)) => (MW cI cJ M mr (upd (upd (upd (upd mi 5 u.2.2.1) 56 u.2.2.2.1) 57 u.2.2.2.2.1) 58 u.2.2.2.2.2.1) (va_up (va_up (va_up (va_up (va_up (va_up mf 1 u.1) 4 u.2.1) 55 u.2.2.2.2.2.2.1) 53 u.2.2.2.2.2.2.2.1) 54 u.2.2.2.2.2.2.2.2.1) 16 u.2.2.2.2.2.2.2.2.2) mg)) u)) A) ([.ref M, .int z_n] : List Value).toArray s 0 0 A) (F0 m 21 ls []) := by
    intro k
    induction k with
    | zero =>
      intro x_20 x_21 x_22 x_23 g_24 g_25 g_26 g_27 g_28 _ _ _ hinv hm
      obtain ⟨hi_28_0, hi_28_1, hi_28_2, hi_28_3, hi_28_4, hi_28_5, hi_28_6, hi_28_7, hi_28_8⟩ := hinv
      exact absurd hm (by omega)
    | succ k ih_29 =>
      intro x_20 x_21 x_22 x_23 g_24 g_25 g_26 g_27 g_28 H locs ls hinv hm hw30 hl31
      obtain ⟨hi_28_0, hi_28_1, hi_28_2, hi_28_3, hi_28_4, hi_28_5, hi_28_6, hi_28_7, hi_28_8⟩ := hinv
      refine lv_iload_n (pc := 21) E.1 E.2.1 dX12_goesFor_21 rfl (lv_at hl31 0 rfl) ?_
      refine lv_iload_n (pc := 22) E.1 E.2.1 dX12_goesFor_22 rfl (lv_at hl31 2 rfl) ?_
      refine lv_icmp_ge (pc := 23) (tgt := 130) E.1 E.2.1 dX12_goesFor_23 (by decide) (fun c_32 => ?_) (fun c_32 => ?_)
      · skip
        have hc_32 := leE (a := z_n.toInt) (b := x_20.toInt) rfl rfl c_32
        refine lv_aload_n (pc := 130) E.1 E.2.1 dX12_goesFor_130 rfl (lv_at hl31 1 rfl) ?_
        refine x_get (pc := 131) (T := TX12) (N := 70) (ci := 12) (v := .ref (mr 1)) E hw30 inX12 0 1 q_1400 rfl rfl (by decide) rfl rfl dX12_goesFor_131 ?_
        refine lv_iconst (pc := 134) (v := 3) E.1 E.2.1 dX12_goesFor_134 (by decide +kernel) ?_
        refine x_iald (pc := 135) (f := g_24) E hw30 1 rfl (inbE (a := 3) (by decide +kernel) (by omega)) dX12_goesFor_135 ?_
        refine lv_topi (fun v_33 ev_33 => ?_)
        have hv_33 : v_33.toInt = (g_24 3).toInt := by rw [ev_33]; rfl
        refine lv_istore_n (pc := 136) (lv' := [(2, .int v_33), (0, .ref M), (1, .int z_n)]) E.1 E.2.1 dX12_goesFor_136 rfl hl31 (by decide) rfl (fun ls hl34 => ?_)
        refine lv_aload_n (pc := 137) E.1 E.2.1 dX12_goesFor_137 rfl (lv_at hl34 1 rfl) ?_
        refine cm_v (pc := 138) hw30 (rn_M (As := []) (rest := []) E hw30 (s_endsThoughtU l D cI cJ _ M mr (upd (upd (upd (upd mi 5 nisThought_8) 56 x_21) 57 x_22) 58 x_23) (va_up (va_up (va_up (va_up (va_up (va_up mf 1 g_24) 4 gwaiting_7) 16 g_28) 53 g_26) 54 g_27) 55 g_25) mg ) (gdV q_1982 q_1984 q_123 q_162 q_1985) hdV_X12_endsThought ⟨rfl, rfl⟩ ⟨(Nat.le_of_ble_eq_true rfl), (Nat.le_of_ble_eq_true rfl)⟩ ⟨(Nat.le_of_ble_eq_true rfl), (Nat.le_of_ble_eq_true rfl)⟩ 12 rfl rfl rfl rfl hl34.1 rfl (Nat.le_of_ble_eq_true rfl) dX12_goesFor_138) (fun u_35 H1 locs hp hw37 => ?_)
        obtain ⟨gnow_38, nisThought_39⟩ := u_35
        generalize H1 = H at hw37 ⊢
        have hw40 : WD D A s.heap (MW cI cJ M mr (upd (upd (upd (upd mi 5 nisThought_39) 56 x_21) 57 x_22) 58 x_23) (va_up (va_up (va_up (va_up (va_up (va_up mf 1 gnow_38) 4 gwaiting_7) 16 g_28) 53 g_26) 54 g_27) 55 g_25) mg) H locs := hw37
        obtain ⟨hp_41, hp_42, hp_43, hp_44, hp_45⟩ := hp
        have hp_41 : nisThought_39.toInt = 0 := hp_41
        have hp_42 : (gnow_38 2).toInt = (gwaiting_7 2).toInt := hp_42
        have hp_43 : (gnow_38 3).toInt = (gwaiting_7 3).toInt := hp_43
        have hp_44 : (gnow_38 5).toInt = (gwaiting_7 5).toInt := hp_44
        have hp_45 : (gnow_38 0).toInt = (gwaiting_7 0).toInt := hp_45
        refine lv_iload_n (pc := 141) E.1 E.2.1 dX12_goesFor_141 rfl (lv_at hl34 0 rfl) ?_
        exact em_i (w1 := (fun (u : (Nat → Int32) × (Nat → Int32) × Int32 × Int32 × Int32 × Int32 × (Nat → Int32) × (Nat → Int32) × (Nat → Int32) × (Nat → Int32)) => (MW cI cJ M mr (upd (upd (upd (upd mi 5 u.2.2.1) 56 u.2.2.2.1) 57 u.2.2.2.2.1) 58 u.2.2.2.2.2.1) (va_up (va_up (va_up (va_up (va_up (va_up mf 1 u.1) 4 u.2.1) 55 u.2.2.2.2.2.2.1) 53 u.2.2.2.2.2.2.2.1) 54 u.2.2.2.2.2.2.2.2.1) 16 u.2.2.2.2.2.2.2.2.2) mg))) E hr hlk (gnow_38, gwaiting_7, nisThought_39, x_21, x_22, x_23, g_25, g_26, g_27, g_28) hw40 ⟨(by show (gnow_38 2).toInt = ((mf 1) 2).toInt; omega), (by show (gnow_38 3).toInt = ((mf 1) 3).toInt; omega), (by show (gnow_38 5).toInt = ((mf 1) 5).toInt; omega), (by show nisThought_39.toInt = 0; omega), (by show (gnow_38 0).toInt = ((mf 1) 0).toInt; omega)⟩ (Nat.le_of_ble_eq_true rfl) (Nat.le_of_ble_eq_true rfl) dX12_goesFor_142
      · skip
        have hc_32 := nleE (a := z_n.toInt) (b := x_20.toInt) rfl rfl c_32
        refine lv_aload_n (pc := 26) E.1 E.2.1 dX12_goesFor_26 rfl (lv_at hl31 1 rfl) ?_
        refine cm_i (pc := 27) hw30 (rn_M (As := []) (rest := []) E hw30 (s_goesByU l D cI cJ _ M mr (upd (upd (upd (upd mi 5 nisThought_8) 56 x_21) 57 x_22) 58 x_23) (va_up (va_up (va_up (va_up (va_up (va_up mf 1 g_24) 4 gwaiting_7) 16 g_28) 53 g_26) 54 g_27) 55 g_25) mg (by show 0 ≤ (g_24 3).toInt; omega) (by show (g_24 3).toInt + 1 ≤ (mi 6).toInt; omega) (by show (mi 6).toInt ≤ 10; omega) (by show 0 ≤ (g_24 2).toInt ∧ (g_24 2).toInt ≤ 150; omega) (by show 0 ≤ (g_24 5).toInt ∧ (g_24 5).toInt ≤ 200; omega) (by show 0 ≤ (mi 44).toInt ∧ (mi 44).toInt ≤ 10; omega) (by show 0 ≤ (mi 42).toInt ∧ (mi 42).toInt ≤ 40; omega) (by show 0 ≤ ((mf 27) 0).toInt; omega) (by show ((mf 27) 0).toInt ≤ 16; omega) (by show 0 ≤ ((mf 27) 1).toInt; omega) (by show ((mf 27) 1).toInt ≤ 16; omega) (by show 0 ≤ (mi 49).toInt ∧ (mi 49).toInt ≤ 200; omega) (by show (-29) ≤ (mi 15).toInt ∧ (mi 15).toInt ≤ 69; omega) (by show 0 ≤ (g_24 0).toInt; omega) (by show (g_24 0).toInt ≤ 20000; omega) a_paths (show LW 0 0 (mf 31) (mf 32) (mf 28) (mf 29) (mf 30) ((mf 27) 0).toInt 400 from lf_law0) (show LW 16 400 (mf 31) (mf 32) (mf 28) (mf 29) (mf 30) ((mf 27) 1).toInt 400 from lf_law1) (show rndOK (mi 49).toInt (mi 6).toInt (mf 50) from lf_round)) (gdV q_1835 q_1837 q_91 q_162 q_1838) hdV_X12_goesBy ⟨rfl, rfl⟩ ⟨(Nat.le_of_ble_eq_true rfl), (Nat.le_of_ble_eq_true rfl)⟩ ⟨(Nat.le_of_ble_eq_true rfl), (Nat.le_of_ble_eq_true rfl)⟩ 12 rfl rfl rfl rfl hl31.1 rfl (Nat.le_of_ble_eq_true rfl) dX12_goesFor_27) (fun r_47 u_46 H1 locs hp hw48 => ?_)
        obtain ⟨gnow_49, gfarOf_50, gasked_51, gstack_52, gbook_53⟩ := u_46
        generalize H1 = H at hw48 ⊢
        have hw54 : WD D A s.heap (MW cI cJ M mr (upd (upd (upd (upd mi 5 nisThought_8) 56 x_21) 57 x_22) 58 x_23) (va_up (va_up (va_up (va_up (va_up (va_up mf 1 gnow_49) 4 gwaiting_7) 16 gbook_53) 53 gasked_51) 54 gstack_52) 55 gfarOf_50) mg) H locs := hw48
        obtain ⟨hp_55, hp_56, hp_57, hp_58, hp_59, hp_60, hp_61, hp_62, hp_63⟩ := hp
        have hp_55 : 0 ≤ r_47.toInt := hp_55
        have hp_56 : r_47.toInt ≤ 1 := hp_56
        have hp_57 : 0 ≤ (gnow_49 2).toInt := hp_57
        have hp_58 : (gnow_49 2).toInt ≤ 150 := hp_58
        have hp_59 : 0 ≤ (gnow_49 5).toInt := hp_59
        have hp_60 : (gnow_49 5).toInt ≤ 200 := hp_60
        have hp_61 : 0 ≤ (gnow_49 3).toInt := hp_61
        have hp_62 : (gnow_49 3).toInt + 1 ≤ (mi 6).toInt := hp_62
        have hp_63 : (gnow_49 0).toInt = (g_24 0).toInt + 1 := hp_63
        refine lv_if_ne (pc := 30) (tgt := 43) E.1 E.2.1 dX12_goesFor_30 (by decide) (fun c_64 => ?_) (fun c_64 => ?_)
        · skip
          have hc_64 := neE (a := r_47.toInt) (b := 0) rfl (by decide +kernel) c_64
          refine lv_iconst (pc := 43) (v := 0) E.1 E.2.1 dX12_goesFor_43 (by decide +kernel) ?_
          refine lv_istore_n (pc := 44) (lv' := [(3, .int 0), (2, .int x_20), (0, .ref M), (1, .int z_n)]) E.1 E.2.1 dX12_goesFor_44 rfl hl31 (by decide) rfl (fun ls hl65 => ?_)
          have loop_66 : ∀ (k : Nat) (x_67 : Int32) (x_68 : Int32) (x_69 : Int32) (H : Heap) (locs : List Loc) (ls : Array Slot), (0 ≤ x_67.toInt) ∧ (x_67.toInt ≤ (mi 44).toInt) → (mi 44).toInt - x_67.toInt < (k : Int) → WD D A s.heap (MW cI cJ M mr (upd (upd (upd (upd mi 5 nisThought_8) 56 x_21) 57 x_68) 58 x_69) (va_up (va_up (va_up (va_up (va_up (va_up mf 1 gnow_49) 4 gwaiting_7) 16 gbook_53) 53 gasked_51) 54 gstack_52) 55 gfarOf_50) mg) H locs → lv_has ls 4 [(3, .int x_67), (2, .int x_20), (0, .ref M), (1, .int z_n)] → W p l e ({ frames := 8, cells := 0, slots := 0, locals := 201 } : Room) s m ([.ref M, .int z_n] : List Value).toArray below meth c H locs 0 0 (MQ below (va_Qi (fun (r : Int32) (u : (Nat → Int32) × (Nat → Int32) × Int32 × Int32 × Int32 × Int32 × (Nat → Int32) × (Nat → Int32) × (Nat → Int32) × (Nat → Int32)) => ((u.1 2).toInt = ((mf 1) 2).toInt) ∧ ((u.1 3).toInt = ((mf 1) 3).toInt) ∧ ((u.1 5).toInt = ((mf 1) 5).toInt) ∧ (u.2.2.1.toInt = 0) ∧ ((u.1 0).toInt = ((mf 1) 0).toInt)) (fun u => QW D cI cJ A ((fun (u : (Nat → Int32) × (Nat → Int32) × Int32 × Int32 × Int32 × Int32 × (Nat → Int32) × (Nat → Int32) × (Nat → Int32) × (Nat → Int32)) => (MW cI cJ M mr (upd (upd (upd (upd mi 5 u.2.2.1) 56 u.2.2.2.1) 57 u.2.2.2.2.1) 58 u.2.2.2.2.2.1) (va_up (va_up (va_up (va_up (va_up (va_up mf 1 u.1) 4 u.2.1) 55 u.2.2.2.2.2.2.1) 53 u.2.2.2.2.2.2.2.1) 54 u.2.2.2.2.2.2.2.2.1) 16 u.2.2.2.2.2.2.2.2.2) mg)) u)) A) ([.ref M, .int z_n] : List Value).toArray s 0 0 A) (F0 m 45 ls []) := by
            intro k
            induction k with
            | zero =>
              intro x_67 x_68 x_69 _ _ _ hinv hm
              obtain ⟨hi_69_0, hi_69_1⟩ := hinv
              exact absurd hm (by omega)
            | succ k ih_70 =>
              intro x_67 x_68 x_69 H locs ls hinv hm hw71 hl72
              obtain ⟨hi_69_0, hi_69_1⟩ := hinv
              refine lv_iload_n (pc := 45) E.1 E.2.1 dX12_goesFor_45 rfl (lv_at hl72 0 rfl) ?_
              refine lv_aload_n (pc := 46) E.1 E.2.1 dX12_goesFor_46 rfl (lv_at hl72 2 rfl) ?_
              refine x_get (pc := 47) (T := TX12) (N := 70) (ci := 12) (v := .int (mi 44)) E hw71 inX12 0 44 q_1443 rfl rfl (by decide) rfl rfl dX12_goesFor_47 ?_
              refine lv_icmp_ge (pc := 50) (tgt := 124) E.1 E.2.1 dX12_goesFor_50 (by decide) (fun c_73 => ?_) (fun c_73 => ?_)
              · skip
                have hc_73 := leE (a := (mi 44).toInt) (b := x_67.toInt) rfl rfl c_73
                obtain ⟨v_74, ev_74⟩ : ∃ z : Int32, x_20 + Int32.ofInt (1) = z := ⟨_, rfl⟩
                have hv_74 : v_74.toInt = x_20.toInt + (1) := by rw [← ev_74]; exact incE rfl (by decide) (by omega)
                refine lv_iinc (pc := 124) (v := v_74) (lv' := [(2, .int v_74), (3, .int x_67), (0, .ref M), (1, .int z_n)]) E.1 E.2.1 dX12_goesFor_124 hl72 (k := 1) rfl ev_74 (by decide) rfl (fun ls hl75 => ?_)
                refine lv_goto (pc := 127) (tgt := 21) E.1 E.2.1 dX12_goesFor_127 (by decide) ?_
                exact ih_29 v_74 x_21 x_68 x_69 gnow_49 gfarOf_50 gasked_51 gstack_52 gbook_53 _ _ _ ⟨(by show 0 ≤ v_74.toInt; omega), (by show v_74.toInt ≤ z_n.toInt; omega), (by show 0 ≤ (gnow_49 2).toInt; omega), (by show (gnow_49 2).toInt ≤ 150; omega), (by show 0 ≤ (gnow_49 3).toInt; omega), (by show (gnow_49 3).toInt + 1 ≤ (mi 6).toInt; omega), (by show 0 ≤ (gnow_49 5).toInt; omega), (by show (gnow_49 5).toInt ≤ 200; omega), (by show (gnow_49 0).toInt = ((mf 1) 0).toInt + v_74.toInt; omega)⟩ (by omega) hw71 (lv_sub hl75 [0, 2, 3] rfl)
              · skip
                have hc_73 := nleE (a := (mi 44).toInt) (b := x_67.toInt) rfl rfl c_73
                refine lv_aload_n (pc := 53) E.1 E.2.1 dX12_goesFor_53 rfl (lv_at hl72 2 rfl) ?_
                refine x_get (pc := 54) (T := TX12) (N := 70) (ci := 12) (v := .ref (mr 1)) E hw71 inX12 0 1 q_1400 rfl rfl (by decide) rfl rfl dX12_goesFor_54 ?_
                refine lv_bipush (pc := 57) (v := 56) E.1 E.2.1 dX12_goesFor_57 (by decide +kernel) ?_
                refine lv_iload_n (pc := 59) E.1 E.2.1 dX12_goesFor_59 rfl (lv_at hl72 0 rfl) ?_
                refine lv_iadd (pc := 60) E.1 E.2.1 dX12_goesFor_60 ?_
                refine lv_topi (fun v_76 ev_76 => ?_)
                have hv_76 : v_76.toInt = 56 + x_67.toInt := by rw [ev_76]; exact addE (by decide +kernel) rfl (by omega)
                refine x_iald (pc := 61) (f := gnow_49) E hw71 1 rfl (inbE (a := v_76.toInt) rfl (by omega)) dX12_goesFor_61 ?_
                refine lv_topi (fun v_77 ev_77 => ?_)
                refine lv_if_eq (pc := 62) (tgt := 118) E.1 E.2.1 dX12_goesFor_62 (by decide) (fun c_78 => ?_) (fun c_78 => ?_)
                · skip
                  have hc_78 := eqE (a := v_77.toInt) (b := 0) rfl (by decide +kernel) c_78
                  obtain ⟨v_79, ev_79⟩ : ∃ z : Int32, x_67 + Int32.ofInt (1) = z := ⟨_, rfl⟩
                  have hv_79 : v_79.toInt = x_67.toInt + (1) := by rw [← ev_79]; exact incE rfl (by decide) (by omega)
                  refine lv_iinc (pc := 118) (v := v_79) (lv' := [(3, .int v_79), (2, .int x_20), (0, .ref M), (1, .int z_n)]) E.1 E.2.1 dX12_goesFor_118 hl72 (k := 0) rfl ev_79 (by decide) rfl (fun ls hl80 => ?_)
                  refine lv_goto (pc := 121) (tgt := 45) E.1 E.2.1 dX12_goesFor_121 (by decide) ?_
                  exact ih_70 v_79 x_68 x_69 _ _ _ ⟨(by show 0 ≤ v_79.toInt; omega), (by show v_79.toInt ≤ (mi 44).toInt; omega)⟩ (by omega) hw71 (lv_sub hl80 [0, 1, 2, 3] rfl)
                · skip
                  have hc_78 := neE (a := v_77.toInt) (b := 0) rfl (by decide +kernel) c_78
                  refine lv_aload_n (pc := 65) E.1 E.2.1 dX12_goesFor_65 rfl (lv_at hl72 2 rfl) ?_
                  refine x_get (pc := 66) (T := TX12) (N := 70) (ci := 12) (v := .ref (mr 4)) E hw71 inX12 0 4 q_1403 rfl rfl (by decide) rfl rfl dX12_goesFor_66 ?_
                  refine lv_bipush (pc := 69) (v := 56) E.1 E.2.1 dX12_goesFor_69 (by decide +kernel) ?_
                  refine lv_iload_n (pc := 71) E.1 E.2.1 dX12_goesFor_71 rfl (lv_at hl72 0 rfl) ?_
                  refine lv_iadd (pc := 72) E.1 E.2.1 dX12_goesFor_72 ?_
                  refine lv_topi (fun v_81 ev_81 => ?_)
                  have hv_81 : v_81.toInt = 56 + x_67.toInt := by rw [ev_81]; exact addE (by decide +kernel) rfl (by omega)
                  refine x_iald (pc := 73) (f := gwaiting_7) E hw71 3 rfl (inbE (a := v_81.toInt) rfl (by omega)) dX12_goesFor_73 ?_
                  refine lv_topi (fun v_82 ev_82 => ?_)
                  refine lv_iconst (pc := 74) (v := 1) E.1 E.2.1 dX12_goesFor_74 (by decide +kernel) ?_
                  refine lv_icmp_eq (pc := 75) (tgt := 118) E.1 E.2.1 dX12_goesFor_75 (by decide) (fun c_83 => ?_) (fun c_83 => ?_)
                  · skip
                    have hc_83 := eqE (a := v_82.toInt) (b := 1) rfl (by decide +kernel) c_83
                    obtain ⟨v_84, ev_84⟩ : ∃ z : Int32, x_67 + Int32.ofInt (1) = z := ⟨_, rfl⟩
                    have hv_84 : v_84.toInt = x_67.toInt + (1) := by rw [← ev_84]; exact incE rfl (by decide) (by omega)
                    refine lv_iinc (pc := 118) (v := v_84) (lv' := [(3, .int v_84), (2, .int x_20), (0, .ref M), (1, .int z_n)]) E.1 E.2.1 dX12_goesFor_118 hl72 (k := 0) rfl ev_84 (by decide) rfl (fun ls hl85 => ?_)
                    refine lv_goto (pc := 121) (tgt := 45) E.1 E.2.1 dX12_goesFor_121 (by decide) ?_
                    exact ih_70 v_84 x_68 x_69 _ _ _ ⟨(by show 0 ≤ v_84.toInt; omega), (by show v_84.toInt ≤ (mi 44).toInt; omega)⟩ (by omega) hw71 (lv_sub hl85 [0, 1, 2, 3] rfl)
                  · skip
                    have hc_83 := neE (a := v_82.toInt) (b := 1) rfl (by decide +kernel) c_83
                    refine lv_aload_n (pc := 78) E.1 E.2.1 dX12_goesFor_78 rfl (lv_at hl72 2 rfl) ?_
                    refine x_get (pc := 79) (T := TX12) (N := 70) (ci := 12) (v := .int x_68) E hw71 inX12 0 57 q_1456 rfl rfl (by decide) rfl rfl dX12_goesFor_79 ?_
                    refine lv_iload_n (pc := 82) E.1 E.2.1 dX12_goesFor_82 rfl (lv_at hl72 0 rfl) ?_
                    refine lv_ishr (pc := 83) E.1 E.2.1 dX12_goesFor_83 ?_
                    refine lv_topi (fun v_86 ev_86 => ?_)
                    refine lv_iconst (pc := 84) (v := 1) E.1 E.2.1 dX12_goesFor_84 (by decide +kernel) ?_
                    refine lv_iand (pc := 85) E.1 E.2.1 dX12_goesFor_85 ?_
                    refine lv_topi (fun v_87 ev_87 => ?_)
                    refine lv_iconst (pc := 86) (v := 1) E.1 E.2.1 dX12_goesFor_86 (by decide +kernel) ?_
                    refine lv_icmp_ne (pc := 87) (tgt := 93) E.1 E.2.1 dX12_goesFor_87 (by decide) (fun c_88 => ?_) (fun c_88 => ?_)
                    · skip
                      have hc_88 := neE (a := v_87.toInt) (b := 1) rfl (by decide +kernel) c_88
                      refine lv_aload_n (pc := 93) E.1 E.2.1 dX12_goesFor_93 rfl (lv_at hl72 2 rfl) ?_
                      refine x_get (pc := 94) (T := TX12) (N := 70) (ci := 12) (v := .int x_69) E hw71 inX12 0 58 q_1457 rfl rfl (by decide) rfl rfl dX12_goesFor_94 ?_
                      refine lv_iconst (pc := 97) (v := (-1)) E.1 E.2.1 dX12_goesFor_97 (by decide +kernel) ?_
                      refine lv_icmp_ne (pc := 98) (tgt := 106) E.1 E.2.1 dX12_goesFor_98 (by decide) (fun c_89 => ?_) (fun c_89 => ?_)
                      · skip
                        have hc_89 := neE (a := x_69.toInt) (b := (-1)) rfl (by decide +kernel) c_89
                        refine lv_aload_n (pc := 106) E.1 E.2.1 dX12_goesFor_106 rfl (lv_at hl72 2 rfl) ?_
                        refine lv_aload_n (pc := 107) E.1 E.2.1 dX12_goesFor_107 rfl (lv_at hl72 2 rfl) ?_
                        refine x_get (pc := 108) (T := TX12) (N := 70) (ci := 12) (v := .int x_68) E hw71 inX12 0 57 q_1456 rfl rfl (by decide) rfl rfl dX12_goesFor_108 ?_
                        refine lv_iconst (pc := 111) (v := 1) E.1 E.2.1 dX12_goesFor_111 (by decide +kernel) ?_
                        refine lv_iload_n (pc := 112) E.1 E.2.1 dX12_goesFor_112 rfl (lv_at hl72 0 rfl) ?_
                        refine lv_ishl (pc := 113) E.1 E.2.1 dX12_goesFor_113 ?_
                        refine lv_topi (fun v_90 ev_90 => ?_)
                        have hb1v_90 : 1 ≤ v_90.toInt ∧ v_90.toInt ≤ 512 := by rw [ev_90]; exact shl9 (by omega)
                        refine lv_ior (pc := 114) E.1 E.2.1 dX12_goesFor_114 ?_
                        refine lv_topi (fun v_91 ev_91 => ?_)
                        refine x_put (pc := 115) (T := TX12) (N := 70) (ci := 12) (ws' := (MW cI cJ M mr (upd (upd (upd (upd mi 5 nisThought_8) 56 x_21) 57 v_91) 58 x_69) (va_up (va_up (va_up (va_up (va_up (va_up mf 1 gnow_49) 4 gwaiting_7) 16 gbook_53) 53 gasked_51) 54 gstack_52) 55 gfarOf_50) mg)) E hw71 inX12 tyX12_ok nmX12 0 57 q_1456 rfl rfl (by decide) rfl rfl rfl rfl (Nat.le_of_ble_eq_true rfl) rfl dX12_goesFor_115 (fun H locs hw92 => ?_)
                        obtain ⟨v_93, ev_93⟩ : ∃ z : Int32, x_67 + Int32.ofInt (1) = z := ⟨_, rfl⟩
                        have hv_93 : v_93.toInt = x_67.toInt + (1) := by rw [← ev_93]; exact incE rfl (by decide) (by omega)
                        refine lv_iinc (pc := 118) (v := v_93) (lv' := [(3, .int v_93), (2, .int x_20), (0, .ref M), (1, .int z_n)]) E.1 E.2.1 dX12_goesFor_118 hl72 (k := 0) rfl ev_93 (by decide) rfl (fun ls hl94 => ?_)
                        refine lv_goto (pc := 121) (tgt := 45) E.1 E.2.1 dX12_goesFor_121 (by decide) ?_
                        exact ih_70 v_93 v_91 x_69 _ _ _ ⟨(by show 0 ≤ v_93.toInt; omega), (by show v_93.toInt ≤ (mi 44).toInt; omega)⟩ (by omega) hw92 (lv_sub hl94 [0, 1, 2, 3] rfl)
                      · skip
                        have hc_89 := eqE (a := x_69.toInt) (b := (-1)) rfl (by decide +kernel) c_89
                        refine lv_aload_n (pc := 101) E.1 E.2.1 dX12_goesFor_101 rfl (lv_at hl72 2 rfl) ?_
                        refine lv_iload_n (pc := 102) E.1 E.2.1 dX12_goesFor_102 rfl (lv_at hl72 0 rfl) ?_
                        refine x_put (pc := 103) (T := TX12) (N := 70) (ci := 12) (ws' := (MW cI cJ M mr (upd (upd (upd (upd mi 5 nisThought_8) 56 x_21) 57 x_68) 58 x_67) (va_up (va_up (va_up (va_up (va_up (va_up mf 1 gnow_49) 4 gwaiting_7) 16 gbook_53) 53 gasked_51) 54 gstack_52) 55 gfarOf_50) mg)) E hw71 inX12 tyX12_ok nmX12 0 58 q_1457 rfl rfl (by decide) rfl rfl rfl rfl (Nat.le_of_ble_eq_true rfl) rfl dX12_goesFor_103 (fun H locs hw95 => ?_)
                        refine lv_aload_n (pc := 106) E.1 E.2.1 dX12_goesFor_106 rfl (lv_at hl72 2 rfl) ?_
                        refine lv_aload_n (pc := 107) E.1 E.2.1 dX12_goesFor_107 rfl (lv_at hl72 2 rfl) ?_
                        refine x_get (pc := 108) (T := TX12) (N := 70) (ci := 12) (v := .int x_68) E hw95 inX12 0 57 q_1456 rfl rfl (by decide) rfl rfl dX12_goesFor_108 ?_
                        refine lv_iconst (pc := 111) (v := 1) E.1 E.2.1 dX12_goesFor_111 (by decide +kernel) ?_
                        refine lv_iload_n (pc := 112) E.1 E.2.1 dX12_goesFor_112 rfl (lv_at hl72 0 rfl) ?_
                        refine lv_ishl (pc := 113) E.1 E.2.1 dX12_goesFor_113 ?_
                        refine lv_topi (fun v_96 ev_96 => ?_)
                        have hb1v_96 : 1 ≤ v_96.toInt ∧ v_96.toInt ≤ 512 := by rw [ev_96]; exact shl9 (by omega)
                        refine lv_ior (pc := 114) E.1 E.2.1 dX12_goesFor_114 ?_
                        refine lv_topi (fun v_97 ev_97 => ?_)
                        refine x_put (pc := 115) (T := TX12) (N := 70) (ci := 12) (ws' := (MW cI cJ M mr (upd (upd (upd (upd mi 5 nisThought_8) 56 x_21) 57 v_97) 58 x_67) (va_up (va_up (va_up (va_up (va_up (va_up mf 1 gnow_49) 4 gwaiting_7) 16 gbook_53) 53 gasked_51) 54 gstack_52) 55 gfarOf_50) mg)) E hw95 inX12 tyX12_ok nmX12 0 57 q_1456 rfl rfl (by decide) rfl rfl rfl rfl (Nat.le_of_ble_eq_true rfl) rfl dX12_goesFor_115 (fun H locs hw98 => ?_)
                        obtain ⟨v_99, ev_99⟩ : ∃ z : Int32, x_67 + Int32.ofInt (1) = z := ⟨_, rfl⟩
                        have hv_99 : v_99.toInt = x_67.toInt + (1) := by rw [← ev_99]; exact incE rfl (by decide) (by omega)
                        refine lv_iinc (pc := 118) (v := v_99) (lv' := [(3, .int v_99), (2, .int x_20), (0, .ref M), (1, .int z_n)]) E.1 E.2.1 dX12_goesFor_118 hl72 (k := 0) rfl ev_99 (by decide) rfl (fun ls hl100 => ?_)
                        refine lv_goto (pc := 121) (tgt := 45) E.1 E.2.1 dX12_goesFor_121 (by decide) ?_
                        exact ih_70 v_99 v_97 x_67 _ _ _ ⟨(by show 0 ≤ v_99.toInt; omega), (by show v_99.toInt ≤ (mi 44).toInt; omega)⟩ (by omega) hw98 (lv_sub hl100 [0, 1, 2, 3] rfl)
                    · skip
                      have hc_88 := eqE (a := v_87.toInt) (b := 1) rfl (by decide +kernel) c_88
                      refine lv_goto (pc := 90) (tgt := 118) E.1 E.2.1 dX12_goesFor_90 (by decide) ?_
                      obtain ⟨v_101, ev_101⟩ : ∃ z : Int32, x_67 + Int32.ofInt (1) = z := ⟨_, rfl⟩
                      have hv_101 : v_101.toInt = x_67.toInt + (1) := by rw [← ev_101]; exact incE rfl (by decide) (by omega)
                      refine lv_iinc (pc := 118) (v := v_101) (lv' := [(3, .int v_101), (2, .int x_20), (0, .ref M), (1, .int z_n)]) E.1 E.2.1 dX12_goesFor_118 hl72 (k := 0) rfl ev_101 (by decide) rfl (fun ls hl102 => ?_)
                      refine lv_goto (pc := 121) (tgt := 45) E.1 E.2.1 dX12_goesFor_121 (by decide) ?_
                      exact ih_70 v_101 x_68 x_69 _ _ _ ⟨(by show 0 ≤ v_101.toInt; omega), (by show v_101.toInt ≤ (mi 44).toInt; omega)⟩ (by omega) hw71 (lv_sub hl102 [0, 1, 2, 3] rfl)
          exact loop_66 (Int.toNat ((mi 44).toInt - 0) + 1) 0 x_22 x_23 _ _ _ ⟨(by show 0 ≤ (0 : Int32).toInt; have k_0 : (0 : Int32).toInt = 0 := (by decide +kernel); omega), (by show (0 : Int32).toInt ≤ (mi 44).toInt; have k_0 : (0 : Int32).toInt = 0 := (by decide +kernel); omega)⟩ (by have k_0 : (0 : Int32).toInt = 0 := (by decide +kernel); omega) hw54 (lv_sub hl65 [0, 1, 2, 3] rfl)
        · skip
          have hc_64 := eqE (a := r_47.toInt) (b := 0) rfl (by decide +kernel) c_64
          refine lv_aload_n (pc := 33) E.1 E.2.1 dX12_goesFor_33 rfl (lv_at hl31 1 rfl) ?_
          refine lv_aload_n (pc := 34) E.1 E.2.1 dX12_goesFor_34 rfl (lv_at hl31 1 rfl) ?_
          refine x_get (pc := 35) (T := TX12) (N := 70) (ci := 12) (v := .int x_21) E hw54 inX12 0 56 q_1455 rfl rfl (by decide) rfl rfl dX12_goesFor_35 ?_
          refine lv_iconst (pc := 38) (v := 1) E.1 E.2.1 dX12_goesFor_38 (by decide +kernel) ?_
          refine lv_iadd (pc := 39) E.1 E.2.1 dX12_goesFor_39 ?_
          refine lv_topi (fun v_103 ev_103 => ?_)
          refine x_put (pc := 40) (T := TX12) (N := 70) (ci := 12) (ws' := (MW cI cJ M mr (upd (upd (upd (upd mi 5 nisThought_8) 56 v_103) 57 x_22) 58 x_23) (va_up (va_up (va_up (va_up (va_up (va_up mf 1 gnow_49) 4 gwaiting_7) 16 gbook_53) 53 gasked_51) 54 gstack_52) 55 gfarOf_50) mg)) E hw54 inX12 tyX12_ok nmX12 0 56 q_1455 rfl rfl (by decide) rfl rfl rfl rfl (Nat.le_of_ble_eq_true rfl) rfl dX12_goesFor_40 (fun H locs hw104 => ?_)
          refine lv_iconst (pc := 43) (v := 0) E.1 E.2.1 dX12_goesFor_43 (by decide +kernel) ?_
          refine lv_istore_n (pc := 44) (lv' := [(3, .int 0), (2, .int x_20), (0, .ref M), (1, .int z_n)]) E.1 E.2.1 dX12_goesFor_44 rfl hl31 (by decide) rfl (fun ls hl105 => ?_)
          have loop_106 : ∀ (k : Nat) (x_107 : Int32) (x_108 : Int32) (x_109 : Int32) (H : Heap) (locs : List Loc) (ls : Array Slot), (0 ≤ x_107.toInt) ∧ (x_107.toInt ≤ (mi 44).toInt) → (mi 44).toInt - x_107.toInt < (k : Int) → WD D A s.heap (MW cI cJ M mr (upd (upd (upd (upd mi 5 nisThought_8) 56 v_103) 57 x_108) 58 x_109) (va_up (va_up (va_up (va_up (va_up (va_up mf 1 gnow_49) 4 gwaiting_7) 16 gbook_53) 53 gasked_51) 54 gstack_52) 55 gfarOf_50) mg) H locs → lv_has ls 4 [(3, .int x_107), (2, .int x_20), (0, .ref M), (1, .int z_n)] → W p l e ({ frames := 8, cells := 0, slots := 0, locals := 201 } : Room) s m ([.ref M, .int z_n] : List Value).toArray below meth c H locs 0 0 (MQ below (va_Qi (fun (r : Int32) (u : (Nat → Int32) × (Nat → Int32) × Int32 × Int32 × Int32 × Int32 × (Nat → Int32) × (Nat → Int32) × (Nat → Int32) × (Nat → Int32)) => ((u.1 2).toInt = ((mf 1) 2).toInt) ∧ ((u.1 3).toInt = ((mf 1) 3).toInt) ∧ ((u.1 5).toInt = ((mf 1) 5).toInt) ∧ (u.2.2.1.toInt = 0) ∧ ((u.1 0).toInt = ((mf 1) 0).toInt)) (fun u => QW D cI cJ A ((fun (u : (Nat → Int32) × (Nat → Int32) × Int32 × Int32 × Int32 × Int32 × (Nat → Int32) × (Nat → Int32) × (Nat → Int32) × (Nat → Int32)) => (MW cI cJ M mr (upd (upd (upd (upd mi 5 u.2.2.1) 56 u.2.2.2.1) 57 u.2.2.2.2.1) 58 u.2.2.2.2.2.1) (va_up (va_up (va_up (va_up (va_up (va_up mf 1 u.1) 4 u.2.1) 55 u.2.2.2.2.2.2.1) 53 u.2.2.2.2.2.2.2.1) 54 u.2.2.2.2.2.2.2.2.1) 16 u.2.2.2.2.2.2.2.2.2) mg)) u)) A) ([.ref M, .int z_n] : List Value).toArray s 0 0 A) (F0 m 45 ls []) := by
            intro k
            induction k with
            | zero =>
              intro x_107 x_108 x_109 _ _ _ hinv hm
              obtain ⟨hi_109_0, hi_109_1⟩ := hinv
              exact absurd hm (by omega)
            | succ k ih_110 =>
              intro x_107 x_108 x_109 H locs ls hinv hm hw111 hl112
              obtain ⟨hi_109_0, hi_109_1⟩ := hinv
              refine lv_iload_n (pc := 45) E.1 E.2.1 dX12_goesFor_45 rfl (lv_at hl112 0 rfl) ?_
              refine lv_aload_n (pc := 46) E.1 E.2.1 dX12_goesFor_46 rfl (lv_at hl112 2 rfl) ?_
              refine x_get (pc := 47) (T := TX12) (N := 70) (ci := 12) (v := .int (mi 44)) E hw111 inX12 0 44 q_1443 rfl rfl (by decide) rfl rfl dX12_goesFor_47 ?_
              refine lv_icmp_ge (pc := 50) (tgt := 124) E.1 E.2.1 dX12_goesFor_50 (by decide) (fun c_113 => ?_) (fun c_113 => ?_)
              · skip
                have hc_113 := leE (a := (mi 44).toInt) (b := x_107.toInt) rfl rfl c_113
                obtain ⟨v_114, ev_114⟩ : ∃ z : Int32, x_20 + Int32.ofInt (1) = z := ⟨_, rfl⟩
                have hv_114 : v_114.toInt = x_20.toInt + (1) := by rw [← ev_114]; exact incE rfl (by decide) (by omega)
                refine lv_iinc (pc := 124) (v := v_114) (lv' := [(2, .int v_114), (3, .int x_107), (0, .ref M), (1, .int z_n)]) E.1 E.2.1 dX12_goesFor_124 hl112 (k := 1) rfl ev_114 (by decide) rfl (fun ls hl115 => ?_)
                refine lv_goto (pc := 127) (tgt := 21) E.1 E.2.1 dX12_goesFor_127 (by decide) ?_
                exact ih_29 v_114 v_103 x_108 x_109 gnow_49 gfarOf_50 gasked_51 gstack_52 gbook_53 _ _ _ ⟨(by show 0 ≤ v_114.toInt; omega), (by show v_114.toInt ≤ z_n.toInt; omega), (by show 0 ≤ (gnow_49 2).toInt; omega), (by show (gnow_49 2).toInt ≤ 150; omega), (by show 0 ≤ (gnow_49 3).toInt; omega), (by show (gnow_49 3).toInt + 1 ≤ (mi 6).toInt; omega), (by show 0 ≤ (gnow_49 5).toInt; omega), (by show (gnow_49 5).toInt ≤ 200; omega), (by show (gnow_49 0).toInt = ((mf 1) 0).toInt + v_114.toInt; omega)⟩ (by omega) hw111 (lv_sub hl115 [0, 2, 3] rfl)
              · skip
                have hc_113 := nleE (a := (mi 44).toInt) (b := x_107.toInt) rfl rfl c_113
                refine lv_aload_n (pc := 53) E.1 E.2.1 dX12_goesFor_53 rfl (lv_at hl112 2 rfl) ?_
                refine x_get (pc := 54) (T := TX12) (N := 70) (ci := 12) (v := .ref (mr 1)) E hw111 inX12 0 1 q_1400 rfl rfl (by decide) rfl rfl dX12_goesFor_54 ?_
                refine lv_bipush (pc := 57) (v := 56) E.1 E.2.1 dX12_goesFor_57 (by decide +kernel) ?_
                refine lv_iload_n (pc := 59) E.1 E.2.1 dX12_goesFor_59 rfl (lv_at hl112 0 rfl) ?_
                refine lv_iadd (pc := 60) E.1 E.2.1 dX12_goesFor_60 ?_
                refine lv_topi (fun v_116 ev_116 => ?_)
                have hv_116 : v_116.toInt = 56 + x_107.toInt := by rw [ev_116]; exact addE (by decide +kernel) rfl (by omega)
                refine x_iald (pc := 61) (f := gnow_49) E hw111 1 rfl (inbE (a := v_116.toInt) rfl (by omega)) dX12_goesFor_61 ?_
                refine lv_topi (fun v_117 ev_117 => ?_)
                refine lv_if_eq (pc := 62) (tgt := 118) E.1 E.2.1 dX12_goesFor_62 (by decide) (fun c_118 => ?_) (fun c_118 => ?_)
                · skip
                  have hc_118 := eqE (a := v_117.toInt) (b := 0) rfl (by decide +kernel) c_118
                  obtain ⟨v_119, ev_119⟩ : ∃ z : Int32, x_107 + Int32.ofInt (1) = z := ⟨_, rfl⟩
                  have hv_119 : v_119.toInt = x_107.toInt + (1) := by rw [← ev_119]; exact incE rfl (by decide) (by omega)
                  refine lv_iinc (pc := 118) (v := v_119) (lv' := [(3, .int v_119), (2, .int x_20), (0, .ref M), (1, .int z_n)]) E.1 E.2.1 dX12_goesFor_118 hl112 (k := 0) rfl ev_119 (by decide) rfl (fun ls hl120 => ?_)
                  refine lv_goto (pc := 121) (tgt := 45) E.1 E.2.1 dX12_goesFor_121 (by decide) ?_
                  exact ih_110 v_119 x_108 x_109 _ _ _ ⟨(by show 0 ≤ v_119.toInt; omega), (by show v_119.toInt ≤ (mi 44).toInt; omega)⟩ (by omega) hw111 (lv_sub hl120 [0, 1, 2, 3] rfl)
                · skip
                  have hc_118 := neE (a := v_117.toInt) (b := 0) rfl (by decide +kernel) c_118
                  refine lv_aload_n (pc := 65) E.1 E.2.1 dX12_goesFor_65 rfl (lv_at hl112 2 rfl) ?_
                  refine x_get (pc := 66) (T := TX12) (N := 70) (ci := 12) (v := .ref (mr 4)) E hw111 inX12 0 4 q_1403 rfl rfl (by decide) rfl rfl dX12_goesFor_66 ?_
                  refine lv_bipush (pc := 69) (v := 56) E.1 E.2.1 dX12_goesFor_69 (by decide +kernel) ?_
                  refine lv_iload_n (pc := 71) E.1 E.2.1 dX12_goesFor_71 rfl (lv_at hl112 0 rfl) ?_
                  refine lv_iadd (pc := 72) E.1 E.2.1 dX12_goesFor_72 ?_
                  refine lv_topi (fun v_121 ev_121 => ?_)
                  have hv_121 : v_121.toInt = 56 + x_107.toInt := by rw [ev_121]; exact addE (by decide +kernel) rfl (by omega)
                  refine x_iald (pc := 73) (f := gwaiting_7) E hw111 3 rfl (inbE (a := v_121.toInt) rfl (by omega)) dX12_goesFor_73 ?_
                  refine lv_topi (fun v_122 ev_122 => ?_)
                  refine lv_iconst (pc := 74) (v := 1) E.1 E.2.1 dX12_goesFor_74 (by decide +kernel) ?_
                  refine lv_icmp_eq (pc := 75) (tgt := 118) E.1 E.2.1 dX12_goesFor_75 (by decide) (fun c_123 => ?_) (fun c_123 => ?_)
                  · skip
                    have hc_123 := eqE (a := v_122.toInt) (b := 1) rfl (by decide +kernel) c_123
                    obtain ⟨v_124, ev_124⟩ : ∃ z : Int32, x_107 + Int32.ofInt (1) = z := ⟨_, rfl⟩
                    have hv_124 : v_124.toInt = x_107.toInt + (1) := by rw [← ev_124]; exact incE rfl (by decide) (by omega)
                    refine lv_iinc (pc := 118) (v := v_124) (lv' := [(3, .int v_124), (2, .int x_20), (0, .ref M), (1, .int z_n)]) E.1 E.2.1 dX12_goesFor_118 hl112 (k := 0) rfl ev_124 (by decide) rfl (fun ls hl125 => ?_)
                    refine lv_goto (pc := 121) (tgt := 45) E.1 E.2.1 dX12_goesFor_121 (by decide) ?_
                    exact ih_110 v_124 x_108 x_109 _ _ _ ⟨(by show 0 ≤ v_124.toInt; omega), (by show v_124.toInt ≤ (mi 44).toInt; omega)⟩ (by omega) hw111 (lv_sub hl125 [0, 1, 2, 3] rfl)
                  · skip
                    have hc_123 := neE (a := v_122.toInt) (b := 1) rfl (by decide +kernel) c_123
                    refine lv_aload_n (pc := 78) E.1 E.2.1 dX12_goesFor_78 rfl (lv_at hl112 2 rfl) ?_
                    refine x_get (pc := 79) (T := TX12) (N := 70) (ci := 12) (v := .int x_108) E hw111 inX12 0 57 q_1456 rfl rfl (by decide) rfl rfl dX12_goesFor_79 ?_
                    refine lv_iload_n (pc := 82) E.1 E.2.1 dX12_goesFor_82 rfl (lv_at hl112 0 rfl) ?_
                    refine lv_ishr (pc := 83) E.1 E.2.1 dX12_goesFor_83 ?_
                    refine lv_topi (fun v_126 ev_126 => ?_)
                    refine lv_iconst (pc := 84) (v := 1) E.1 E.2.1 dX12_goesFor_84 (by decide +kernel) ?_
                    refine lv_iand (pc := 85) E.1 E.2.1 dX12_goesFor_85 ?_
                    refine lv_topi (fun v_127 ev_127 => ?_)
                    refine lv_iconst (pc := 86) (v := 1) E.1 E.2.1 dX12_goesFor_86 (by decide +kernel) ?_
                    refine lv_icmp_ne (pc := 87) (tgt := 93) E.1 E.2.1 dX12_goesFor_87 (by decide) (fun c_128 => ?_) (fun c_128 => ?_)
                    · skip
                      have hc_128 := neE (a := v_127.toInt) (b := 1) rfl (by decide +kernel) c_128
                      refine lv_aload_n (pc := 93) E.1 E.2.1 dX12_goesFor_93 rfl (lv_at hl112 2 rfl) ?_
                      refine x_get (pc := 94) (T := TX12) (N := 70) (ci := 12) (v := .int x_109) E hw111 inX12 0 58 q_1457 rfl rfl (by decide) rfl rfl dX12_goesFor_94 ?_
                      refine lv_iconst (pc := 97) (v := (-1)) E.1 E.2.1 dX12_goesFor_97 (by decide +kernel) ?_
                      refine lv_icmp_ne (pc := 98) (tgt := 106) E.1 E.2.1 dX12_goesFor_98 (by decide) (fun c_129 => ?_) (fun c_129 => ?_)
                      · skip
                        have hc_129 := neE (a := x_109.toInt) (b := (-1)) rfl (by decide +kernel) c_129
                        refine lv_aload_n (pc := 106) E.1 E.2.1 dX12_goesFor_106 rfl (lv_at hl112 2 rfl) ?_
                        refine lv_aload_n (pc := 107) E.1 E.2.1 dX12_goesFor_107 rfl (lv_at hl112 2 rfl) ?_
                        refine x_get (pc := 108) (T := TX12) (N := 70) (ci := 12) (v := .int x_108) E hw111 inX12 0 57 q_1456 rfl rfl (by decide) rfl rfl dX12_goesFor_108 ?_
                        refine lv_iconst (pc := 111) (v := 1) E.1 E.2.1 dX12_goesFor_111 (by decide +kernel) ?_
                        refine lv_iload_n (pc := 112) E.1 E.2.1 dX12_goesFor_112 rfl (lv_at hl112 0 rfl) ?_
                        refine lv_ishl (pc := 113) E.1 E.2.1 dX12_goesFor_113 ?_
                        refine lv_topi (fun v_130 ev_130 => ?_)
                        have hb1v_130 : 1 ≤ v_130.toInt ∧ v_130.toInt ≤ 512 := by rw [ev_130]; exact shl9 (by omega)
                        refine lv_ior (pc := 114) E.1 E.2.1 dX12_goesFor_114 ?_
                        refine lv_topi (fun v_131 ev_131 => ?_)
                        refine x_put (pc := 115) (T := TX12) (N := 70) (ci := 12) (ws' := (MW cI cJ M mr (upd (upd (upd (upd mi 5 nisThought_8) 56 v_103) 57 v_131) 58 x_109) (va_up (va_up (va_up (va_up (va_up (va_up mf 1 gnow_49) 4 gwaiting_7) 16 gbook_53) 53 gasked_51) 54 gstack_52) 55 gfarOf_50) mg)) E hw111 inX12 tyX12_ok nmX12 0 57 q_1456 rfl rfl (by decide) rfl rfl rfl rfl (Nat.le_of_ble_eq_true rfl) rfl dX12_goesFor_115 (fun H locs hw132 => ?_)
                        obtain ⟨v_133, ev_133⟩ : ∃ z : Int32, x_107 + Int32.ofInt (1) = z := ⟨_, rfl⟩
                        have hv_133 : v_133.toInt = x_107.toInt + (1) := by rw [← ev_133]; exact incE rfl (by decide) (by omega)
                        refine lv_iinc (pc := 118) (v := v_133) (lv' := [(3, .int v_133), (2, .int x_20), (0, .ref M), (1, .int z_n)]) E.1 E.2.1 dX12_goesFor_118 hl112 (k := 0) rfl ev_133 (by decide) rfl (fun ls hl134 => ?_)
                        refine lv_goto (pc := 121) (tgt := 45) E.1 E.2.1 dX12_goesFor_121 (by decide) ?_
                        exact ih_110 v_133 v_131 x_109 _ _ _ ⟨(by show 0 ≤ v_133.toInt; omega), (by show v_133.toInt ≤ (mi 44).toInt; omega)⟩ (by omega) hw132 (lv_sub hl134 [0, 1, 2, 3] rfl)
                      · skip
                        have hc_129 := eqE (a := x_109.toInt) (b := (-1)) rfl (by decide +kernel) c_129
                        refine lv_aload_n (pc := 101) E.1 E.2.1 dX12_goesFor_101 rfl (lv_at hl112 2 rfl) ?_
                        refine lv_iload_n (pc := 102) E.1 E.2.1 dX12_goesFor_102 rfl (lv_at hl112 0 rfl) ?_
                        refine x_put (pc := 103) (T := TX12) (N := 70) (ci := 12) (ws' := (MW cI cJ M mr (upd (upd (upd (upd mi 5 nisThought_8) 56 v_103) 57 x_108) 58 x_107) (va_up (va_up (va_up (va_up (va_up (va_up mf 1 gnow_49) 4 gwaiting_7) 16 gbook_53) 53 gasked_51) 54 gstack_52) 55 gfarOf_50) mg)) E hw111 inX12 tyX12_ok nmX12 0 58 q_1457 rfl rfl (by decide) rfl rfl rfl rfl (Nat.le_of_ble_eq_true rfl) rfl dX12_goesFor_103 (fun H locs hw135 => ?_)
                        refine lv_aload_n (pc := 106) E.1 E.2.1 dX12_goesFor_106 rfl (lv_at hl112 2 rfl) ?_
                        refine lv_aload_n (pc := 107) E.1 E.2.1 dX12_goesFor_107 rfl (lv_at hl112 2 rfl) ?_
                        refine x_get (pc := 108) (T := TX12) (N := 70) (ci := 12) (v := .int x_108) E hw135 inX12 0 57 q_1456 rfl rfl (by decide) rfl rfl dX12_goesFor_108 ?_
                        refine lv_iconst (pc := 111) (v := 1) E.1 E.2.1 dX12_goesFor_111 (by decide +kernel) ?_
                        refine lv_iload_n (pc := 112) E.1 E.2.1 dX12_goesFor_112 rfl (lv_at hl112 0 rfl) ?_
                        refine lv_ishl (pc := 113) E.1 E.2.1 dX12_goesFor_113 ?_
                        refine lv_topi (fun v_136 ev_136 => ?_)
                        have hb1v_136 : 1 ≤ v_136.toInt ∧ v_136.toInt ≤ 512 := by rw [ev_136]; exact shl9 (by omega)
                        refine lv_ior (pc := 114) E.1 E.2.1 dX12_goesFor_114 ?_
                        refine lv_topi (fun v_137 ev_137 => ?_)
                        refine x_put (pc := 115) (T := TX12) (N := 70) (ci := 12) (ws' := (MW cI cJ M mr (upd (upd (upd (upd mi 5 nisThought_8) 56 v_103) 57 v_137) 58 x_107) (va_up (va_up (va_up (va_up (va_up (va_up mf 1 gnow_49) 4 gwaiting_7) 16 gbook_53) 53 gasked_51) 54 gstack_52) 55 gfarOf_50) mg)) E hw135 inX12 tyX12_ok nmX12 0 57 q_1456 rfl rfl (by decide) rfl rfl rfl rfl (Nat.le_of_ble_eq_true rfl) rfl dX12_goesFor_115 (fun H locs hw138 => ?_)
                        obtain ⟨v_139, ev_139⟩ : ∃ z : Int32, x_107 + Int32.ofInt (1) = z := ⟨_, rfl⟩
                        have hv_139 : v_139.toInt = x_107.toInt + (1) := by rw [← ev_139]; exact incE rfl (by decide) (by omega)
                        refine lv_iinc (pc := 118) (v := v_139) (lv' := [(3, .int v_139), (2, .int x_20), (0, .ref M), (1, .int z_n)]) E.1 E.2.1 dX12_goesFor_118 hl112 (k := 0) rfl ev_139 (by decide) rfl (fun ls hl140 => ?_)
                        refine lv_goto (pc := 121) (tgt := 45) E.1 E.2.1 dX12_goesFor_121 (by decide) ?_
                        exact ih_110 v_139 v_137 x_107 _ _ _ ⟨(by show 0 ≤ v_139.toInt; omega), (by show v_139.toInt ≤ (mi 44).toInt; omega)⟩ (by omega) hw138 (lv_sub hl140 [0, 1, 2, 3] rfl)
                    · skip
                      have hc_128 := eqE (a := v_127.toInt) (b := 1) rfl (by decide +kernel) c_128
                      refine lv_goto (pc := 90) (tgt := 118) E.1 E.2.1 dX12_goesFor_90 (by decide) ?_
                      obtain ⟨v_141, ev_141⟩ : ∃ z : Int32, x_107 + Int32.ofInt (1) = z := ⟨_, rfl⟩
                      have hv_141 : v_141.toInt = x_107.toInt + (1) := by rw [← ev_141]; exact incE rfl (by decide) (by omega)
                      refine lv_iinc (pc := 118) (v := v_141) (lv' := [(3, .int v_141), (2, .int x_20), (0, .ref M), (1, .int z_n)]) E.1 E.2.1 dX12_goesFor_118 hl112 (k := 0) rfl ev_141 (by decide) rfl (fun ls hl142 => ?_)
                      refine lv_goto (pc := 121) (tgt := 45) E.1 E.2.1 dX12_goesFor_121 (by decide) ?_
                      exact ih_110 v_141 x_108 x_109 _ _ _ ⟨(by show 0 ≤ v_141.toInt; omega), (by show v_141.toInt ≤ (mi 44).toInt; omega)⟩ (by omega) hw111 (lv_sub hl142 [0, 1, 2, 3] rfl)
          exact loop_106 (Int.toNat ((mi 44).toInt - 0) + 1) 0 x_22 x_23 _ _ _ ⟨(by show 0 ≤ (0 : Int32).toInt; have k_0 : (0 : Int32).toInt = 0 := (by decide +kernel); omega), (by show (0 : Int32).toInt ≤ (mi 44).toInt; have k_0 : (0 : Int32).toInt = 0 := (by decide +kernel); omega)⟩ (by have k_0 : (0 : Int32).toInt = 0 := (by decide +kernel); omega) hw104 (lv_sub hl105 [0, 1, 2, 3] rfl)
  exact loop_19 (Int.toNat (z_n.toInt - 0) + 1) 0 0 0 (-1) (mf 1) (mf 55) (mf 53) (mf 54) (mf 16) _ _ _ ⟨(by show 0 ≤ (0 : Int32).toInt; have k_0 : (0 : Int32).toInt = 0 := (by decide +kernel); omega), (by show (0 : Int32).toInt ≤ z_n.toInt; have k_0 : (0 : Int32).toInt = 0 := (by decide +kernel); omega), (by show 0 ≤ ((mf 1) 2).toInt; omega), (by show ((mf 1) 2).toInt ≤ 150; omega), (by show 0 ≤ ((mf 1) 3).toInt; omega), (by show ((mf 1) 3).toInt + 1 ≤ (mi 6).toInt; omega), (by show 0 ≤ ((mf 1) 5).toInt; omega), (by show ((mf 1) 5).toInt ≤ 200; omega), (by show ((mf 1) 0).toInt = ((mf 1) 0).toInt + (0 : Int32).toInt; have k_0 : (0 : Int32).toInt = 0 := (by decide +kernel); omega)⟩ (by have k_0 : (0 : Int32).toInt = 0 := (by decide +kernel); have k_1 : (0 : Int32).toInt = 0 := (by decide +kernel); have k_2 : (0 : Int32).toInt = 0 := (by decide +kernel); have k_3 : ((-1) : Int32).toInt = -1 := (by decide +kernel); omega) hw17 (lv_sub hl18 [0, 1, 2] rfl)

