set_option maxHeartbeats 4000000 in
set_option maxRecDepth 100000 in
theorem s_kept1 (l : Launch) (D : va_G) (cI cJ : ClassId) (sz M : Nat) (mr : Nat → Nat) (mi : Nat → Int32) (mf : Nat → Nat → Int32) (mg : Nat → Nat → Int64) (z_v : Int32) (h0 : (mi 66).toInt = 1) (h1 : 0 ≤ (mi 68).toInt ∧ (mi 68).toInt ≤ 3599) : Met l yX12_kept (Cond.code yX12_kept cX12_kept 2 (some .int) :: GW) ({ frames := 1, cells := 0, slots := 0, locals := 40 } : Room) (va_Pc [.ref M, .int z_v] (PW D cI cJ sz (MW cI cJ M mr mi mf mg) xT)) (va_Qi (fun (r : Int32) (u : Int32 × (Nat → Int32)) => (u.1.toInt = (mi 68).toInt + 1) ∧ ((u.2 = upd (mf 69) ((mi 68)).toNatClampNeg z_v ∧ r = z_v))) (fun u => QW D cI cJ (va_A (MW cI cJ M mr mi mf mg) sz) ((fun (u : Int32 × (Nat → Int32)) => (MW cI cJ M mr (upd mi 68 u.1) (va_up mf 69 u.2) mg)) u)) (va_A (MW cI cJ M mr mi mf mg) sz)) 0 0 (va_A (MW cI cJ M mr mi mf mg) sz) := by
  refine mk_met (y := yX12_kept) (bytes := cX12_kept) (maxL := 2) (avs := [.ref M, .int z_v]) (WS := (MW cI cJ M mr mi mf mg)) (Qf := fun A => va_Qi (fun (r : Int32) (u : Int32 × (Nat → Int32)) => (u.1.toInt = (mi 68).toInt + 1) ∧ ((u.2 = upd (mf 69) ((mi 68)).toNatClampNeg z_v ∧ r = z_v))) (fun u => QW D cI cJ A ((fun (u : Int32 × (Nat → Int32)) => (MW cI cJ M mr (upd mi 68 u.1) (va_up mf 69 u.2) mg)) u)) A) (by decide) (Nat.le_of_ble_eq_true rfl) ?_
  intro p e s m below meth c A ls E hr hlk hnm hX hw1 hl2
  have hl3 : lv_has ls 2 [(0, .ref M), (1, .int z_v)] := hl2
  refine lv_aload_n (pc := 0) E.1 E.2.1 dX12_kept_0 rfl (lv_at hl3 0 rfl) ?_
  refine lv_aload_n (pc := 1) E.1 E.2.1 dX12_kept_1 rfl (lv_at hl3 0 rfl) ?_
  refine x_get (pc := 2) (T := TX12) (N := 70) (ci := 12) (v := .int (mi 68)) E hw1 inX12 0 68 q_1467 rfl rfl (by decide) rfl rfl dX12_kept_2 ?_
  refine lv_iconst (pc := 5) (v := 1) E.1 E.2.1 dX12_kept_5 (by decide +kernel) ?_
  refine lv_iadd (pc := 6) E.1 E.2.1 dX12_kept_6 ?_
  refine lv_topi (fun v_4 ev_4 => ?_)
  have hv_4 : v_4.toInt = (mi 68).toInt + 1 := by rw [ev_4]; exact addE rfl (by decide +kernel) (by omega)
  refine x_put (pc := 7) (T := TX12) (N := 70) (ci := 12) (ws' := (MW cI cJ M mr (upd mi 68 v_4) mf mg)) E hw1 inX12 tyX12_ok nmX12 0 68 q_1467 rfl rfl (by decide) rfl rfl rfl rfl (Nat.le_of_ble_eq_true rfl) rfl dX12_kept_7 (fun H locs hw5 => ?_)
  refine lv_aload_n (pc := 10) E.1 E.2.1 dX12_kept_10 rfl (lv_at hl3 0 rfl) ?_
  refine x_get (pc := 11) (T := TX12) (N := 70) (ci := 12) (v := .int (mi 66)) E hw5 inX12 0 66 q_1465 rfl rfl (by decide) rfl rfl dX12_kept_11 ?_
  refine lv_if_ne (pc := 14) (tgt := 29) E.1 E.2.1 dX12_kept_14 (by decide) (fun _ => ?_) (fun c_6 => absurd c_6 (mneE (a := (mi 66).toInt) (b := 0) rfl (by decide +kernel) (by omega)))
  refine lv_aload_n (pc := 29) E.1 E.2.1 dX12_kept_29 rfl (lv_at hl3 0 rfl) ?_
  refine x_get (pc := 30) (T := TX12) (N := 70) (ci := 12) (v := .ref (mr 69)) E hw5 inX12 0 69 q_1468 rfl rfl (by decide) rfl rfl dX12_kept_30 ?_
  refine lv_aload_n (pc := 33) E.1 E.2.1 dX12_kept_33 rfl (lv_at hl3 0 rfl) ?_
  refine x_get (pc := 34) (T := TX12) (N := 70) (ci := 12) (v := .int v_4) E hw5 inX12 0 68 q_1467 rfl rfl (by decide) rfl rfl dX12_kept_34 ?_
  refine lv_iconst (pc := 37) (v := 1) E.1 E.2.1 dX12_kept_37 (by decide +kernel) ?_
  refine lv_isub (pc := 38) E.1 E.2.1 dX12_kept_38 ?_
  refine lv_topi (fun v_7 ev_7 => ?_)
  have hv_7 : v_7.toInt = v_4.toInt - 1 := by rw [ev_7]; exact subE rfl (by decide +kernel) (by omega)
  refine lv_iload_n (pc := 39) E.1 E.2.1 dX12_kept_39 rfl (lv_at hl3 1 rfl) ?_
  refine x_iastG (pc := 40) (f := (mf 69)) (wf := fun g => (MW cI cJ M mr (upd mi 68 v_4) (va_up mf 69 g) mg)) E hw5 38 rfl (inbE (a := v_7.toInt) rfl (by omega)) (fun _ => rfl) dX12_kept_40 (fun g_8 H locs eg_8 hw9 => ?_)
  refine lv_iload_n (pc := 41) E.1 E.2.1 dX12_kept_41 rfl (lv_at hl3 1 rfl) ?_
  exact em_i (w1 := (fun (u : Int32 × (Nat → Int32)) => (MW cI cJ M mr (upd mi 68 u.1) (va_up mf 69 u.2) mg))) E hr hlk (v_4, g_8) hw9 ⟨(by show v_4.toInt = (mi 68).toInt + 1; omega), (show (g_8 = upd (mf 69) ((mi 68)).toNatClampNeg z_v ∧ z_v = z_v) from ⟨by rw [eg_8, show v_7 = (mi 68) from Int32.toInt_inj.mp (by omega)], rfl⟩)⟩ (Nat.le_of_ble_eq_true rfl) (Nat.le_of_ble_eq_true rfl) dX12_kept_42

set_option maxHeartbeats 4000000 in
set_option maxRecDepth 100000 in
theorem s_kept0 (l : Launch) (D : va_G) (cI cJ : ClassId) (sz M : Nat) (mr : Nat → Nat) (mi : Nat → Int32) (mf : Nat → Nat → Int32) (mg : Nat → Nat → Int64) (z_v : Int32) (h0 : (mi 66).toInt = 0) (h1 : 0 ≤ (mi 68).toInt ∧ (mi 68).toInt ≤ 3599) : Met l yX12_kept (Cond.code yX12_kept cX12_kept 2 (some .int) :: GW) ({ frames := 1, cells := 0, slots := 0, locals := 40 } : Room) (va_Pc [.ref M, .int z_v] (PW D cI cJ sz (MW cI cJ M mr mi mf mg) xT)) (va_Qi (fun (r : Int32) (u : Int32) => (u.toInt = (mi 68).toInt + 1) ∧ (r = (mf 69) ((mi 68)).toNatClampNeg)) (fun u => QW D cI cJ (va_A (MW cI cJ M mr mi mf mg) sz) ((fun (u : Int32) => (MW cI cJ M mr (upd mi 68 u) mf mg)) u)) (va_A (MW cI cJ M mr mi mf mg) sz)) 0 0 (va_A (MW cI cJ M mr mi mf mg) sz) := by
  refine mk_met (y := yX12_kept) (bytes := cX12_kept) (maxL := 2) (avs := [.ref M, .int z_v]) (WS := (MW cI cJ M mr mi mf mg)) (Qf := fun A => va_Qi (fun (r : Int32) (u : Int32) => (u.toInt = (mi 68).toInt + 1) ∧ (r = (mf 69) ((mi 68)).toNatClampNeg)) (fun u => QW D cI cJ A ((fun (u : Int32) => (MW cI cJ M mr (upd mi 68 u) mf mg)) u)) A) (by decide) (Nat.le_of_ble_eq_true rfl) ?_
  intro p e s m below meth c A ls E hr hlk hnm hX hw1 hl2
  have hl3 : lv_has ls 2 [(0, .ref M), (1, .int z_v)] := hl2
  refine lv_aload_n (pc := 0) E.1 E.2.1 dX12_kept_0 rfl (lv_at hl3 0 rfl) ?_
  refine lv_aload_n (pc := 1) E.1 E.2.1 dX12_kept_1 rfl (lv_at hl3 0 rfl) ?_
  refine x_get (pc := 2) (T := TX12) (N := 70) (ci := 12) (v := .int (mi 68)) E hw1 inX12 0 68 q_1467 rfl rfl (by decide) rfl rfl dX12_kept_2 ?_
  refine lv_iconst (pc := 5) (v := 1) E.1 E.2.1 dX12_kept_5 (by decide +kernel) ?_
  refine lv_iadd (pc := 6) E.1 E.2.1 dX12_kept_6 ?_
  refine lv_topi (fun v_4 ev_4 => ?_)
  have hv_4 : v_4.toInt = (mi 68).toInt + 1 := by rw [ev_4]; exact addE rfl (by decide +kernel) (by omega)
  refine x_put (pc := 7) (T := TX12) (N := 70) (ci := 12) (ws' := (MW cI cJ M mr (upd mi 68 v_4) mf mg)) E hw1 inX12 tyX12_ok nmX12 0 68 q_1467 rfl rfl (by decide) rfl rfl rfl rfl (Nat.le_of_ble_eq_true rfl) rfl dX12_kept_7 (fun H locs hw5 => ?_)
  refine lv_aload_n (pc := 10) E.1 E.2.1 dX12_kept_10 rfl (lv_at hl3 0 rfl) ?_
  refine x_get (pc := 11) (T := TX12) (N := 70) (ci := 12) (v := .int (mi 66)) E hw5 inX12 0 66 q_1465 rfl rfl (by decide) rfl rfl dX12_kept_11 ?_
  refine lv_if_ne (pc := 14) (tgt := 29) E.1 E.2.1 dX12_kept_14 (by decide) (fun c_6 => absurd (meqE (a := (mi 66).toInt) (b := 0) rfl (by decide +kernel) (by omega)) c_6) (fun _ => ?_)
  refine lv_aload_n (pc := 17) E.1 E.2.1 dX12_kept_17 rfl (lv_at hl3 0 rfl) ?_
  refine x_get (pc := 18) (T := TX12) (N := 70) (ci := 12) (v := .ref (mr 69)) E hw5 inX12 0 69 q_1468 rfl rfl (by decide) rfl rfl dX12_kept_18 ?_
  refine lv_aload_n (pc := 21) E.1 E.2.1 dX12_kept_21 rfl (lv_at hl3 0 rfl) ?_
  refine x_get (pc := 22) (T := TX12) (N := 70) (ci := 12) (v := .int v_4) E hw5 inX12 0 68 q_1467 rfl rfl (by decide) rfl rfl dX12_kept_22 ?_
  refine lv_iconst (pc := 25) (v := 1) E.1 E.2.1 dX12_kept_25 (by decide +kernel) ?_
  refine lv_isub (pc := 26) E.1 E.2.1 dX12_kept_26 ?_
  refine lv_topi (fun v_7 ev_7 => ?_)
  have hv_7 : v_7.toInt = v_4.toInt - 1 := by rw [ev_7]; exact subE rfl (by decide +kernel) (by omega)
  refine x_iald (pc := 27) (f := (mf 69)) E hw5 38 rfl (inbE (a := v_7.toInt) rfl (by omega)) dX12_kept_27 ?_
  refine lv_topi (fun v_8 ev_8 => ?_)
  exact em_i (w1 := (fun (u : Int32) => (MW cI cJ M mr (upd mi 68 u) mf mg))) E hr hlk v_4 hw5 ⟨(by show v_4.toInt = (mi 68).toInt + 1; omega), (show v_8 = (mf 69) ((mi 68)).toNatClampNeg from (by rw [ev_8, show v_7 = (mi 68) from Int32.toInt_inj.mp (by omega)]))⟩ (Nat.le_of_ble_eq_true rfl) (Nat.le_of_ble_eq_true rfl) dX12_kept_28

set_option maxHeartbeats 4000000 in
set_option maxRecDepth 100000 in
theorem s_keepsTexts1 (l : Launch) (D : va_G) (cI cJ : ClassId) (sz M : Nat) (mr : Nat → Nat) (mi : Nat → Int32) (mf : Nat → Nat → Int32) (mg : Nat → Nat → Int64)  (h0 : (mi 66).toInt = 1) (h1 : (mi 68).toInt = 138) : Met l yX12_keepsTexts (Cond.code yX12_keepsTexts cX12_keepsTexts 2 none :: GW) ({ frames := 2, cells := 0, slots := 0, locals := 61 } : Room) (va_Pc [.ref M] (PW D cI cJ sz (MW cI cJ M mr mi mf mg) xT)) (va_Qv (fun (u : Int32 × (Nat → Int32)) => (u.1.toInt = 551) ∧ (((u.2 138).toInt = (mi 42).toInt ∧ SGT u.2 (mf 43) 0 139 1 160 ∧ (u.2 299).toInt = (mi 44).toInt ∧ (u.2 350).toInt = (mi 49).toInt ∧ SGT u.2 (mf 50) 0 351 1 200 ∧ FRM (mf 69) u.2 138))) (fun u => QW D cI cJ (va_A (MW cI cJ M mr mi mf mg) sz) ((fun (u : Int32 × (Nat → Int32)) => (MW cI cJ M mr (upd mi 68 u.1) (va_up mf 69 u.2) mg)) u)) (va_A (MW cI cJ M mr mi mf mg) sz)) 0 0 (va_A (MW cI cJ M mr mi mf mg) sz) := by
  refine mk_met (y := yX12_keepsTexts) (bytes := cX12_keepsTexts) (maxL := 2) (avs := [.ref M]) (WS := (MW cI cJ M mr mi mf mg)) (Qf := fun A => va_Qv (fun (u : Int32 × (Nat → Int32)) => (u.1.toInt = 551) ∧ (((u.2 138).toInt = (mi 42).toInt ∧ SGT u.2 (mf 43) 0 139 1 160 ∧ (u.2 299).toInt = (mi 44).toInt ∧ (u.2 350).toInt = (mi 49).toInt ∧ SGT u.2 (mf 50) 0 351 1 200 ∧ FRM (mf 69) u.2 138))) (fun u => QW D cI cJ A ((fun (u : Int32 × (Nat → Int32)) => (MW cI cJ M mr (upd mi 68 u.1) (va_up mf 69 u.2) mg)) u)) A) (by decide) (Nat.le_of_ble_eq_true rfl) ?_
  intro p e s m below meth c A ls E hr hlk hnm hX hw1 hl2
  have hl3 : lv_has ls 2 [(0, .ref M)] := hl2
  refine lv_aload_n (pc := 0) E.1 E.2.1 dX12_keepsTexts_0 rfl (lv_at hl3 0 rfl) ?_
  refine lv_aload_n (pc := 1) E.1 E.2.1 dX12_keepsTexts_1 rfl (lv_at hl3 0 rfl) ?_
  refine lv_aload_n (pc := 2) E.1 E.2.1 dX12_keepsTexts_2 rfl (lv_at hl3 0 rfl) ?_
  refine x_get (pc := 3) (T := TX12) (N := 70) (ci := 12) (v := .int (mi 42)) E hw1 inX12 0 42 q_1441 rfl rfl (by decide) rfl rfl dX12_keepsTexts_3 ?_
  refine cm_i (pc := 6) hw1 (rn_M (As := [.int (mi 42)]) (rest := [.ref M]) E hw1 (s_kept1 l D cI cJ _ M mr mi mf mg (mi 42) h0 (by show 0 ≤ (mi 68).toInt ∧ (mi 68).toInt ≤ 3599; omega)) (gdV q_2125 q_2127 q_146 q_162 q_2128) hdV_X12_kept ⟨rfl, rfl⟩ ⟨(Nat.le_of_ble_eq_true rfl), (Nat.le_of_ble_eq_true rfl)⟩ ⟨(Nat.le_of_ble_eq_true rfl), (Nat.le_of_ble_eq_true rfl)⟩ 12 rfl rfl rfl rfl hl3.1 rfl (Nat.le_of_ble_eq_true rfl) dX12_keepsTexts_6) (fun r_5 u_4 H1 locs hp hw6 => ?_)
  obtain ⟨nkeptAt_7, gimages_8⟩ := u_4
  generalize H1 = H at hw6 ⊢
  have hw9 : WD D A s.heap (MW cI cJ M mr (upd mi 68 nkeptAt_7) (va_up mf 69 gimages_8) mg) H locs := hw6
  obtain ⟨hp_10, hp_11⟩ := hp
  have hp_10 : nkeptAt_7.toInt = (mi 68).toInt + 1 := hp_10
  have hp_11 : (gimages_8 = upd (mf 69) ((mi 68)).toNatClampNeg (mi 42) ∧ r_5 = (mi 42)) := hp_11
  obtain ⟨egimages_8, rfl⟩ := hp_11
  refine x_put (pc := 9) (T := TX12) (N := 70) (ci := 12) (ws' := (MW cI cJ M mr (upd mi 68 nkeptAt_7) (va_up mf 69 gimages_8) mg)) E hw9 inX12 tyX12_ok nmX12 0 42 q_1441 rfl rfl (by decide) rfl rfl rfl rfl (Nat.le_of_ble_eq_true rfl) rfl dX12_keepsTexts_9 (fun H locs hw12 => ?_)
  refine lv_iconst (pc := 12) (v := 0) E.1 E.2.1 dX12_keepsTexts_12 (by decide +kernel) ?_
  refine lv_istore_n (pc := 13) (lv' := [(1, .int 0), (0, .ref M)]) E.1 E.2.1 dX12_keepsTexts_13 rfl hl3 (by decide) rfl (fun ls hl13 => ?_)
  have loop_14 : ∀ (k : Nat) (x_15 : Int32) (x_16 : Int32) (g_17 : Nat → Int32) (H : Heap) (locs : List Loc) (ls : Array Slot), (0 ≤ x_15.toInt) ∧ (x_15.toInt ≤ 160) ∧ (x_16.toInt = 139 + x_15.toInt) ∧ (FRM gimages_8 g_17 139) ∧ (SGT g_17 (mf 43) 0 139 1 x_15.toInt) → 160 - x_15.toInt < (k : Int) → WD D A s.heap (MW cI cJ M mr (upd mi 68 x_16) (va_up mf 69 g_17) mg) H locs → lv_has ls 2 [(1, .int x_15), (0, .ref M)] → W p l e ({ frames := 2, cells := 0, slots := 0, locals := 61 } : Room) s m ([.ref M] : List Value).toArray below meth c H locs 0 0 (MQ below (va_Qv (fun (u : Int32 × (Nat → Int32)) => (u.1.toInt = 551) ∧ (((u.2 138).toInt = (mi 42).toInt ∧ SGT u.2 (mf 43) 0 139 1 160 ∧ (u.2 299).toInt = (mi 44).toInt ∧ (u.2 350).toInt = (mi 49).toInt ∧ SGT u.2 (mf 50) 0 351 1 200 ∧ FRM (mf 69) u.2 138))) (fun u => QW D cI cJ A ((fun (u : Int32 × (Nat → Int32)) => (MW cI cJ M mr (upd mi 68 u.1) (va_up mf 69 u.2) mg)) u)) A) ([.ref M] : List Value).toArray s 0 0 A) (F0 m 14 ls []) := by
    intro k
    induction k with
    | zero =>
      intro x_15 x_16 g_17 _ _ _ hinv hm
      obtain ⟨hi_17_0, hi_17_1, hi_17_2, hi_17_3, hi_17_4⟩ := hinv
      exact absurd hm (by omega)
    | succ k ih_18 =>
      intro x_15 x_16 g_17 H locs ls hinv hm hw19 hl20
      obtain ⟨hi_17_0, hi_17_1, hi_17_2, hi_17_3, hi_17_4⟩ := hinv
      refine lv_iload_n (pc := 14) E.1 E.2.1 dX12_keepsTexts_14 rfl (lv_at hl20 0 rfl) ?_
      refine lv_sipush (pc := 15) (v := 160) E.1 E.2.1 dX12_keepsTexts_15 (by decide +kernel) ?_
      refine lv_icmp_ge (pc := 18) (tgt := 43) E.1 E.2.1 dX12_keepsTexts_18 (by decide) (fun c_21 => ?_) (fun c_21 => ?_)
      · skip
        have hc_21 := leE (a := 160) (b := x_15.toInt) (by decide +kernel) rfl c_21
        refine lv_aload_n (pc := 43) E.1 E.2.1 dX12_keepsTexts_43 rfl (lv_at hl20 1 rfl) ?_
        refine lv_aload_n (pc := 44) E.1 E.2.1 dX12_keepsTexts_44 rfl (lv_at hl20 1 rfl) ?_
        refine lv_aload_n (pc := 45) E.1 E.2.1 dX12_keepsTexts_45 rfl (lv_at hl20 1 rfl) ?_
        refine x_get (pc := 46) (T := TX12) (N := 70) (ci := 12) (v := .int (mi 44)) E hw19 inX12 0 44 q_1443 rfl rfl (by decide) rfl rfl dX12_keepsTexts_46 ?_
        refine cm_i (pc := 49) hw19 (rn_M (As := [.int (mi 44)]) (rest := [.ref M]) E hw19 (s_kept1 l D cI cJ _ M mr (upd mi 68 x_16) (va_up mf 69 g_17) mg (mi 44) h0 (by show 0 ≤ x_16.toInt ∧ x_16.toInt ≤ 3599; omega)) (gdV q_2125 q_2127 q_146 q_162 q_2128) hdV_X12_kept ⟨rfl, rfl⟩ ⟨(Nat.le_of_ble_eq_true rfl), (Nat.le_of_ble_eq_true rfl)⟩ ⟨(Nat.le_of_ble_eq_true rfl), (Nat.le_of_ble_eq_true rfl)⟩ 12 rfl rfl rfl rfl hl20.1 rfl (Nat.le_of_ble_eq_true rfl) dX12_keepsTexts_49) (fun r_23 u_22 H1 locs hp hw24 => ?_)
        obtain ⟨nkeptAt_25, gimages_26⟩ := u_22
        generalize H1 = H at hw24 ⊢
        have hw27 : WD D A s.heap (MW cI cJ M mr (upd mi 68 nkeptAt_25) (va_up mf 69 gimages_26) mg) H locs := hw24
        obtain ⟨hp_28, hp_29⟩ := hp
        have hp_28 : nkeptAt_25.toInt = x_16.toInt + 1 := hp_28
        have hp_29 : (gimages_26 = upd g_17 (x_16).toNatClampNeg (mi 44) ∧ r_23 = (mi 44)) := hp_29
        obtain ⟨egimages_26, rfl⟩ := hp_29
        refine x_put (pc := 52) (T := TX12) (N := 70) (ci := 12) (ws' := (MW cI cJ M mr (upd mi 68 nkeptAt_25) (va_up mf 69 gimages_26) mg)) E hw27 inX12 tyX12_ok nmX12 0 44 q_1443 rfl rfl (by decide) rfl rfl rfl rfl (Nat.le_of_ble_eq_true rfl) rfl dX12_keepsTexts_52 (fun H locs hw30 => ?_)
        refine lv_iconst (pc := 55) (v := 0) E.1 E.2.1 dX12_keepsTexts_55 (by decide +kernel) ?_
        refine lv_istore_n (pc := 56) (lv' := [(1, .int 0), (0, .ref M)]) E.1 E.2.1 dX12_keepsTexts_56 rfl hl20 (by decide) rfl (fun ls hl31 => ?_)
        have loop_32 : ∀ (k : Nat) (x_33 : Int32) (x_34 : Int32) (g_35 : Nat → Int32) (H : Heap) (locs : List Loc) (ls : Array Slot), (0 ≤ x_33.toInt) ∧ (x_33.toInt ≤ 50) ∧ (x_34.toInt = 300 + x_33.toInt) ∧ (FRM gimages_26 g_35 300) → 50 - x_33.toInt < (k : Int) → WD D A s.heap (MW cI cJ M mr (upd mi 68 x_34) (va_up mf 69 g_35) mg) H locs → lv_has ls 2 [(1, .int x_33), (0, .ref M)] → W p l e ({ frames := 2, cells := 0, slots := 0, locals := 61 } : Room) s m ([.ref M] : List Value).toArray below meth c H locs 0 0 (MQ below (va_Qv (fun (u : Int32 × (Nat → Int32)) => (u.1.toInt = 551) ∧ (((u.2 138).toInt = (mi 42).toInt ∧ SGT u.2 (mf 43) 0 139 1 160 ∧ (u.2 299).toInt = (mi 44).toInt ∧ (u.2 350).toInt = (mi 49).toInt ∧ SGT u.2 (mf 50) 0 351 1 200 ∧ FRM (mf 69) u.2 138))) (fun u => QW D cI cJ A ((fun (u : Int32 × (Nat → Int32)) => (MW cI cJ M mr (upd mi 68 u.1) (va_up mf 69 u.2) mg)) u)) A) ([.ref M] : List Value).toArray s 0 0 A) (F0 m 57 ls []) := by
          intro k
          induction k with
          | zero =>
            intro x_33 x_34 g_35 _ _ _ hinv hm
            obtain ⟨hi_35_0, hi_35_1, hi_35_2, hi_35_3⟩ := hinv
            exact absurd hm (by omega)
          | succ k ih_36 =>
            intro x_33 x_34 g_35 H locs ls hinv hm hw37 hl38
            obtain ⟨hi_35_0, hi_35_1, hi_35_2, hi_35_3⟩ := hinv
            refine lv_iload_n (pc := 57) E.1 E.2.1 dX12_keepsTexts_57 rfl (lv_at hl38 0 rfl) ?_
            refine lv_bipush (pc := 58) (v := 50) E.1 E.2.1 dX12_keepsTexts_58 (by decide +kernel) ?_
            refine lv_icmp_ge (pc := 60) (tgt := 85) E.1 E.2.1 dX12_keepsTexts_60 (by decide) (fun c_39 => ?_) (fun c_39 => ?_)
            · skip
              have hc_39 := leE (a := 50) (b := x_33.toInt) (by decide +kernel) rfl c_39
              refine lv_aload_n (pc := 85) E.1 E.2.1 dX12_keepsTexts_85 rfl (lv_at hl38 1 rfl) ?_
              refine lv_aload_n (pc := 86) E.1 E.2.1 dX12_keepsTexts_86 rfl (lv_at hl38 1 rfl) ?_
              refine lv_aload_n (pc := 87) E.1 E.2.1 dX12_keepsTexts_87 rfl (lv_at hl38 1 rfl) ?_
              refine x_get (pc := 88) (T := TX12) (N := 70) (ci := 12) (v := .int (mi 49)) E hw37 inX12 0 49 q_1448 rfl rfl (by decide) rfl rfl dX12_keepsTexts_88 ?_
              refine cm_i (pc := 91) hw37 (rn_M (As := [.int (mi 49)]) (rest := [.ref M]) E hw37 (s_kept1 l D cI cJ _ M mr (upd mi 68 x_34) (va_up mf 69 g_35) mg (mi 49) h0 (by show 0 ≤ x_34.toInt ∧ x_34.toInt ≤ 3599; omega)) (gdV q_2125 q_2127 q_146 q_162 q_2128) hdV_X12_kept ⟨rfl, rfl⟩ ⟨(Nat.le_of_ble_eq_true rfl), (Nat.le_of_ble_eq_true rfl)⟩ ⟨(Nat.le_of_ble_eq_true rfl), (Nat.le_of_ble_eq_true rfl)⟩ 12 rfl rfl rfl rfl hl38.1 rfl (Nat.le_of_ble_eq_true rfl) dX12_keepsTexts_91) (fun r_41 u_40 H1 locs hp hw42 => ?_)
              obtain ⟨nkeptAt_43, gimages_44⟩ := u_40
              generalize H1 = H at hw42 ⊢
              have hw45 : WD D A s.heap (MW cI cJ M mr (upd mi 68 nkeptAt_43) (va_up mf 69 gimages_44) mg) H locs := hw42
              obtain ⟨hp_46, hp_47⟩ := hp
              have hp_46 : nkeptAt_43.toInt = x_34.toInt + 1 := hp_46
              have hp_47 : (gimages_44 = upd g_35 (x_34).toNatClampNeg (mi 49) ∧ r_41 = (mi 49)) := hp_47
              obtain ⟨egimages_44, rfl⟩ := hp_47
              refine x_put (pc := 94) (T := TX12) (N := 70) (ci := 12) (ws' := (MW cI cJ M mr (upd mi 68 nkeptAt_43) (va_up mf 69 gimages_44) mg)) E hw45 inX12 tyX12_ok nmX12 0 49 q_1448 rfl rfl (by decide) rfl rfl rfl rfl (Nat.le_of_ble_eq_true rfl) rfl dX12_keepsTexts_94 (fun H locs hw48 => ?_)
              refine lv_iconst (pc := 97) (v := 0) E.1 E.2.1 dX12_keepsTexts_97 (by decide +kernel) ?_
              refine lv_istore_n (pc := 98) (lv' := [(1, .int 0), (0, .ref M)]) E.1 E.2.1 dX12_keepsTexts_98 rfl hl38 (by decide) rfl (fun ls hl49 => ?_)
              have loop_50 : ∀ (k : Nat) (x_51 : Int32) (x_52 : Int32) (g_53 : Nat → Int32) (H : Heap) (locs : List Loc) (ls : Array Slot), (0 ≤ x_51.toInt) ∧ (x_51.toInt ≤ 200) ∧ (x_52.toInt = 351 + x_51.toInt) ∧ (FRM gimages_44 g_53 351) ∧ (SGT g_53 (mf 50) 0 351 1 x_51.toInt) → 200 - x_51.toInt < (k : Int) → WD D A s.heap (MW cI cJ M mr (upd mi 68 x_52) (va_up mf 69 g_53) mg) H locs → lv_has ls 2 [(1, .int x_51), (0, .ref M)] → W p l e ({ frames := 2, cells := 0, slots := 0, locals := 61 } : Room) s m ([.ref M] : List Value).toArray below meth c H locs 0 0 (MQ below (va_Qv (fun (u : Int32 × (Nat → Int32)) => (u.1.toInt = 551) ∧ (((u.2 138).toInt = (mi 42).toInt ∧ SGT u.2 (mf 43) 0 139 1 160 ∧ (u.2 299).toInt = (mi 44).toInt ∧ (u.2 350).toInt = (mi 49).toInt ∧ SGT u.2 (mf 50) 0 351 1 200 ∧ FRM (mf 69) u.2 138))) (fun u => QW D cI cJ A ((fun (u : Int32 × (Nat → Int32)) => (MW cI cJ M mr (upd mi 68 u.1) (va_up mf 69 u.2) mg)) u)) A) ([.ref M] : List Value).toArray s 0 0 A) (F0 m 99 ls []) := by
                intro k
                induction k with
                | zero =>
                  intro x_51 x_52 g_53 _ _ _ hinv hm
                  obtain ⟨hi_53_0, hi_53_1, hi_53_2, hi_53_3, hi_53_4⟩ := hinv
                  exact absurd hm (by omega)
                | succ k ih_54 =>
                  intro x_51 x_52 g_53 H locs ls hinv hm hw55 hl56
                  obtain ⟨hi_53_0, hi_53_1, hi_53_2, hi_53_3, hi_53_4⟩ := hinv
                  refine lv_iload_n (pc := 99) E.1 E.2.1 dX12_keepsTexts_99 rfl (lv_at hl56 0 rfl) ?_
                  refine lv_sipush (pc := 100) (v := 200) E.1 E.2.1 dX12_keepsTexts_100 (by decide +kernel) ?_
                  refine lv_icmp_ge (pc := 103) (tgt := 128) E.1 E.2.1 dX12_keepsTexts_103 (by decide) (fun c_57 => ?_) (fun c_57 => ?_)
                  · skip
                    have hc_57 := leE (a := 200) (b := x_51.toInt) (by decide +kernel) rfl c_57
                    exact em_v (w1 := (fun (u : Int32 × (Nat → Int32)) => (MW cI cJ M mr (upd mi 68 u.1) (va_up mf 69 u.2) mg))) E hr hlk (x_52, g_53) hw55 ⟨(by show x_52.toInt = 551; omega), (show ((g_53 138).toInt = (mi 42).toInt ∧ SGT g_53 (mf 43) 0 139 1 160 ∧ (g_53 299).toInt = (mi 44).toInt ∧ (g_53 350).toInt = (mi 49).toInt ∧ SGT g_53 (mf 50) 0 351 1 200 ∧ FRM (mf 69) g_53 138) from ⟨(by have q := ((hi_53_3 138 (by omega)).trans ((un1 (j := 138) egimages_44 (by omega) (by omega)).trans ((hi_35_3 138 (by omega)).trans ((un1 (j := 138) egimages_26 (by omega) (by omega)).trans ((hi_17_3 138 (by omega)).trans (us1 (j := 138) egimages_8 (by omega) (by omega))))))); rw [q]), (SGT_fr (SGT_keep (SGT_fr (SGT_keep (SGT_n hi_17_4 (by omega)) egimages_26 (by omega) (fun j hj => by omega)) hi_35_3 (fun j hj => by omega)) egimages_44 (by omega) (fun j hj => by omega)) hi_53_3 (fun j hj => by omega)), (by have q := ((hi_53_3 299 (by omega)).trans ((un1 (j := 299) egimages_44 (by omega) (by omega)).trans ((hi_35_3 299 (by omega)).trans (us1 (j := 299) egimages_26 (by omega) (by omega))))); rw [q]), (by have q := ((hi_53_3 350 (by omega)).trans (us1 (j := 350) egimages_44 (by omega) (by omega))); rw [q]), (SGT_n hi_53_4 (by omega)), (FRM_fr (FRM_put (FRM_fr (FRM_put (FRM_fr (FRM_put FRM_nil egimages_8 (by omega)) hi_17_3 (by decide)) egimages_26 (by omega)) hi_35_3 (by decide)) egimages_44 (by omega)) hi_53_3 (by decide))⟩)⟩ (Nat.le_of_ble_eq_true rfl) (Nat.le_of_ble_eq_true rfl) dX12_keepsTexts_128
                  · skip
                    have hc_57 := nleE (a := 200) (b := x_51.toInt) (by decide +kernel) rfl c_57
                    refine lv_aload_n (pc := 106) E.1 E.2.1 dX12_keepsTexts_106 rfl (lv_at hl56 1 rfl) ?_
                    refine x_get (pc := 107) (T := TX12) (N := 70) (ci := 12) (v := .ref (mr 50)) E hw55 inX12 0 50 q_1449 rfl rfl (by decide) rfl rfl dX12_keepsTexts_107 ?_
                    refine lv_iload_n (pc := 110) E.1 E.2.1 dX12_keepsTexts_110 rfl (lv_at hl56 0 rfl) ?_
                    refine lv_aload_n (pc := 111) E.1 E.2.1 dX12_keepsTexts_111 rfl (lv_at hl56 1 rfl) ?_
                    refine lv_aload_n (pc := 112) E.1 E.2.1 dX12_keepsTexts_112 rfl (lv_at hl56 1 rfl) ?_
                    refine x_get (pc := 113) (T := TX12) (N := 70) (ci := 12) (v := .ref (mr 50)) E hw55 inX12 0 50 q_1449 rfl rfl (by decide) rfl rfl dX12_keepsTexts_113 ?_
                    refine lv_iload_n (pc := 116) E.1 E.2.1 dX12_keepsTexts_116 rfl (lv_at hl56 0 rfl) ?_
                    refine x_iald (pc := 117) (f := (mf 50)) E hw55 25 rfl (inbE (a := x_51.toInt) rfl (by omega)) dX12_keepsTexts_117 ?_
                    refine lv_topi (fun v_58 ev_58 => ?_)
                    refine cm_i (pc := 118) hw55 (rn_M (As := [.int v_58]) (rest := [.int x_51, .ref (mr 50)]) E hw55 (s_kept1 l D cI cJ _ M mr (upd mi 68 x_52) (va_up mf 69 g_53) mg v_58 h0 (by show 0 ≤ x_52.toInt ∧ x_52.toInt ≤ 3599; omega)) (gdV q_2125 q_2127 q_146 q_162 q_2128) hdV_X12_kept ⟨rfl, rfl⟩ ⟨(Nat.le_of_ble_eq_true rfl), (Nat.le_of_ble_eq_true rfl)⟩ ⟨(Nat.le_of_ble_eq_true rfl), (Nat.le_of_ble_eq_true rfl)⟩ 12 rfl rfl rfl rfl hl56.1 rfl (Nat.le_of_ble_eq_true rfl) dX12_keepsTexts_118) (fun r_60 u_59 H1 locs hp hw61 => ?_)
                    obtain ⟨nkeptAt_62, gimages_63⟩ := u_59
                    generalize H1 = H at hw61 ⊢
                    have hw64 : WD D A s.heap (MW cI cJ M mr (upd mi 68 nkeptAt_62) (va_up mf 69 gimages_63) mg) H locs := hw61
                    obtain ⟨hp_65, hp_66⟩ := hp
                    have hp_65 : nkeptAt_62.toInt = x_52.toInt + 1 := hp_65
                    have hp_66 : (gimages_63 = upd g_53 (x_52).toNatClampNeg v_58 ∧ r_60 = v_58) := hp_66
                    obtain ⟨egimages_63, rfl⟩ := hp_66
                    refine x_iastG (pc := 121) (f := (mf 50)) (wf := fun g => (MW cI cJ M mr (upd mi 68 nkeptAt_62) (va_up (va_up mf 50 g) 69 gimages_63) mg)) E hw64 25 rfl (inbE (a := x_51.toInt) rfl (by omega)) (fun _ => rfl) dX12_keepsTexts_121 (fun g_67 H locs eg_67 hw68 => ?_)
                    obtain rfl : g_67 = (mf 50) := by rw [eg_67]; exact upd_same ev_58
                    have hw69 : WD D A s.heap (MW cI cJ M mr (upd mi 68 nkeptAt_62) (va_up mf 69 gimages_63) mg) H locs := hw68
                    obtain ⟨v_70, ev_70⟩ : ∃ z : Int32, x_51 + Int32.ofInt (1) = z := ⟨_, rfl⟩
                    have hv_70 : v_70.toInt = x_51.toInt + (1) := by rw [← ev_70]; exact incE rfl (by decide) (by omega)
                    refine lv_iinc (pc := 122) (v := v_70) (lv' := [(1, .int v_70), (0, .ref M)]) E.1 E.2.1 dX12_keepsTexts_122 hl56 (k := 0) rfl ev_70 (by decide) rfl (fun ls hl71 => ?_)
                    refine lv_goto (pc := 125) (tgt := 99) E.1 E.2.1 dX12_keepsTexts_125 (by decide) ?_
                    exact ih_54 v_70 nkeptAt_62 gimages_63 _ _ _ ⟨(by show 0 ≤ v_70.toInt; omega), (by show v_70.toInt ≤ 200; omega), (by show nkeptAt_62.toInt = 351 + v_70.toInt; omega), (FRM_put hi_53_3 egimages_63 (by omega)), (SGT_put hi_53_4 egimages_63 (by omega) (by omega) ev_58 (by omega) (by decide) (m := v_70.toInt) (by omega))⟩ (by omega) hw69 (lv_sub hl71 [0, 1] rfl)
              exact loop_50 (Int.toNat (200 - 0) + 1) 0 nkeptAt_43 gimages_44 _ _ _ ⟨(by show 0 ≤ (0 : Int32).toInt; have k_0 : (0 : Int32).toInt = 0 := (by decide +kernel); omega), (by show (0 : Int32).toInt ≤ 200; have k_0 : (0 : Int32).toInt = 0 := (by decide +kernel); omega), (by show nkeptAt_43.toInt = 351 + (0 : Int32).toInt; have k_0 : (0 : Int32).toInt = 0 := (by decide +kernel); omega), FRM_nil, (SGT_nil (by decide +kernel))⟩ (by have k_0 : (0 : Int32).toInt = 0 := (by decide +kernel); omega) hw48 (lv_sub hl49 [0, 1] rfl)
            · skip
              have hc_39 := nleE (a := 50) (b := x_33.toInt) (by decide +kernel) rfl c_39
              refine lv_aload_n (pc := 63) E.1 E.2.1 dX12_keepsTexts_63 rfl (lv_at hl38 1 rfl) ?_
              refine x_get (pc := 64) (T := TX12) (N := 70) (ci := 12) (v := .ref (mr 45)) E hw37 inX12 0 45 q_1444 rfl rfl (by decide) rfl rfl dX12_keepsTexts_64 ?_
              refine lv_iload_n (pc := 67) E.1 E.2.1 dX12_keepsTexts_67 rfl (lv_at hl38 0 rfl) ?_
              refine lv_aload_n (pc := 68) E.1 E.2.1 dX12_keepsTexts_68 rfl (lv_at hl38 1 rfl) ?_
              refine lv_aload_n (pc := 69) E.1 E.2.1 dX12_keepsTexts_69 rfl (lv_at hl38 1 rfl) ?_
              refine x_get (pc := 70) (T := TX12) (N := 70) (ci := 12) (v := .ref (mr 45)) E hw37 inX12 0 45 q_1444 rfl rfl (by decide) rfl rfl dX12_keepsTexts_70 ?_
              refine lv_iload_n (pc := 73) E.1 E.2.1 dX12_keepsTexts_73 rfl (lv_at hl38 0 rfl) ?_
              refine x_iald (pc := 74) (f := (mf 45)) E hw37 22 rfl (inbE (a := x_33.toInt) rfl (by omega)) dX12_keepsTexts_74 ?_
              refine lv_topi (fun v_72 ev_72 => ?_)
              refine cm_i (pc := 75) hw37 (rn_M (As := [.int v_72]) (rest := [.int x_33, .ref (mr 45)]) E hw37 (s_kept1 l D cI cJ _ M mr (upd mi 68 x_34) (va_up mf 69 g_35) mg v_72 h0 (by show 0 ≤ x_34.toInt ∧ x_34.toInt ≤ 3599; omega)) (gdV q_2125 q_2127 q_146 q_162 q_2128) hdV_X12_kept ⟨rfl, rfl⟩ ⟨(Nat.le_of_ble_eq_true rfl), (Nat.le_of_ble_eq_true rfl)⟩ ⟨(Nat.le_of_ble_eq_true rfl), (Nat.le_of_ble_eq_true rfl)⟩ 12 rfl rfl rfl rfl hl38.1 rfl (Nat.le_of_ble_eq_true rfl) dX12_keepsTexts_75) (fun r_74 u_73 H1 locs hp hw75 => ?_)
              obtain ⟨nkeptAt_76, gimages_77⟩ := u_73
              generalize H1 = H at hw75 ⊢
              have hw78 : WD D A s.heap (MW cI cJ M mr (upd mi 68 nkeptAt_76) (va_up mf 69 gimages_77) mg) H locs := hw75
              obtain ⟨hp_79, hp_80⟩ := hp
              have hp_79 : nkeptAt_76.toInt = x_34.toInt + 1 := hp_79
              have hp_80 : (gimages_77 = upd g_35 (x_34).toNatClampNeg v_72 ∧ r_74 = v_72) := hp_80
              obtain ⟨egimages_77, rfl⟩ := hp_80
              refine x_iastG (pc := 78) (f := (mf 45)) (wf := fun g => (MW cI cJ M mr (upd mi 68 nkeptAt_76) (va_up (va_up mf 45 g) 69 gimages_77) mg)) E hw78 22 rfl (inbE (a := x_33.toInt) rfl (by omega)) (fun _ => rfl) dX12_keepsTexts_78 (fun g_81 H locs eg_81 hw82 => ?_)
              obtain rfl : g_81 = (mf 45) := by rw [eg_81]; exact upd_same ev_72
              have hw83 : WD D A s.heap (MW cI cJ M mr (upd mi 68 nkeptAt_76) (va_up mf 69 gimages_77) mg) H locs := hw82
              obtain ⟨v_84, ev_84⟩ : ∃ z : Int32, x_33 + Int32.ofInt (1) = z := ⟨_, rfl⟩
              have hv_84 : v_84.toInt = x_33.toInt + (1) := by rw [← ev_84]; exact incE rfl (by decide) (by omega)
              refine lv_iinc (pc := 79) (v := v_84) (lv' := [(1, .int v_84), (0, .ref M)]) E.1 E.2.1 dX12_keepsTexts_79 hl38 (k := 0) rfl ev_84 (by decide) rfl (fun ls hl85 => ?_)
              refine lv_goto (pc := 82) (tgt := 57) E.1 E.2.1 dX12_keepsTexts_82 (by decide) ?_
              exact ih_36 v_84 nkeptAt_76 gimages_77 _ _ _ ⟨(by show 0 ≤ v_84.toInt; omega), (by show v_84.toInt ≤ 50; omega), (by show nkeptAt_76.toInt = 300 + v_84.toInt; omega), (FRM_put hi_35_3 egimages_77 (by omega))⟩ (by omega) hw83 (lv_sub hl85 [0, 1] rfl)
        exact loop_32 (Int.toNat (50 - 0) + 1) 0 nkeptAt_25 gimages_26 _ _ _ ⟨(by show 0 ≤ (0 : Int32).toInt; have k_0 : (0 : Int32).toInt = 0 := (by decide +kernel); omega), (by show (0 : Int32).toInt ≤ 50; have k_0 : (0 : Int32).toInt = 0 := (by decide +kernel); omega), (by show nkeptAt_25.toInt = 300 + (0 : Int32).toInt; have k_0 : (0 : Int32).toInt = 0 := (by decide +kernel); omega), FRM_nil⟩ (by have k_0 : (0 : Int32).toInt = 0 := (by decide +kernel); omega) hw30 (lv_sub hl31 [0, 1] rfl)
      · skip
        have hc_21 := nleE (a := 160) (b := x_15.toInt) (by decide +kernel) rfl c_21
        refine lv_aload_n (pc := 21) E.1 E.2.1 dX12_keepsTexts_21 rfl (lv_at hl20 1 rfl) ?_
        refine x_get (pc := 22) (T := TX12) (N := 70) (ci := 12) (v := .ref (mr 43)) E hw19 inX12 0 43 q_1442 rfl rfl (by decide) rfl rfl dX12_keepsTexts_22 ?_
        refine lv_iload_n (pc := 25) E.1 E.2.1 dX12_keepsTexts_25 rfl (lv_at hl20 0 rfl) ?_
        refine lv_aload_n (pc := 26) E.1 E.2.1 dX12_keepsTexts_26 rfl (lv_at hl20 1 rfl) ?_
        refine lv_aload_n (pc := 27) E.1 E.2.1 dX12_keepsTexts_27 rfl (lv_at hl20 1 rfl) ?_
        refine x_get (pc := 28) (T := TX12) (N := 70) (ci := 12) (v := .ref (mr 43)) E hw19 inX12 0 43 q_1442 rfl rfl (by decide) rfl rfl dX12_keepsTexts_28 ?_
        refine lv_iload_n (pc := 31) E.1 E.2.1 dX12_keepsTexts_31 rfl (lv_at hl20 0 rfl) ?_
        refine x_iald (pc := 32) (f := (mf 43)) E hw19 21 rfl (inbE (a := x_15.toInt) rfl (by omega)) dX12_keepsTexts_32 ?_
        refine lv_topi (fun v_86 ev_86 => ?_)
        refine cm_i (pc := 33) hw19 (rn_M (As := [.int v_86]) (rest := [.int x_15, .ref (mr 43)]) E hw19 (s_kept1 l D cI cJ _ M mr (upd mi 68 x_16) (va_up mf 69 g_17) mg v_86 h0 (by show 0 ≤ x_16.toInt ∧ x_16.toInt ≤ 3599; omega)) (gdV q_2125 q_2127 q_146 q_162 q_2128) hdV_X12_kept ⟨rfl, rfl⟩ ⟨(Nat.le_of_ble_eq_true rfl), (Nat.le_of_ble_eq_true rfl)⟩ ⟨(Nat.le_of_ble_eq_true rfl), (Nat.le_of_ble_eq_true rfl)⟩ 12 rfl rfl rfl rfl hl20.1 rfl (Nat.le_of_ble_eq_true rfl) dX12_keepsTexts_33) (fun r_88 u_87 H1 locs hp hw89 => ?_)
        obtain ⟨nkeptAt_90, gimages_91⟩ := u_87
        generalize H1 = H at hw89 ⊢
        have hw92 : WD D A s.heap (MW cI cJ M mr (upd mi 68 nkeptAt_90) (va_up mf 69 gimages_91) mg) H locs := hw89
        obtain ⟨hp_93, hp_94⟩ := hp
        have hp_93 : nkeptAt_90.toInt = x_16.toInt + 1 := hp_93
        have hp_94 : (gimages_91 = upd g_17 (x_16).toNatClampNeg v_86 ∧ r_88 = v_86) := hp_94
        obtain ⟨egimages_91, rfl⟩ := hp_94
        refine x_iastG (pc := 36) (f := (mf 43)) (wf := fun g => (MW cI cJ M mr (upd mi 68 nkeptAt_90) (va_up (va_up mf 43 g) 69 gimages_91) mg)) E hw92 21 rfl (inbE (a := x_15.toInt) rfl (by omega)) (fun _ => rfl) dX12_keepsTexts_36 (fun g_95 H locs eg_95 hw96 => ?_)
        obtain rfl : g_95 = (mf 43) := by rw [eg_95]; exact upd_same ev_86
        have hw97 : WD D A s.heap (MW cI cJ M mr (upd mi 68 nkeptAt_90) (va_up mf 69 gimages_91) mg) H locs := hw96
        obtain ⟨v_98, ev_98⟩ : ∃ z : Int32, x_15 + Int32.ofInt (1) = z := ⟨_, rfl⟩
        have hv_98 : v_98.toInt = x_15.toInt + (1) := by rw [← ev_98]; exact incE rfl (by decide) (by omega)
        refine lv_iinc (pc := 37) (v := v_98) (lv' := [(1, .int v_98), (0, .ref M)]) E.1 E.2.1 dX12_keepsTexts_37 hl20 (k := 0) rfl ev_98 (by decide) rfl (fun ls hl99 => ?_)
        refine lv_goto (pc := 40) (tgt := 14) E.1 E.2.1 dX12_keepsTexts_40 (by decide) ?_
        exact ih_18 v_98 nkeptAt_90 gimages_91 _ _ _ ⟨(by show 0 ≤ v_98.toInt; omega), (by show v_98.toInt ≤ 160; omega), (by show nkeptAt_90.toInt = 139 + v_98.toInt; omega), (FRM_put hi_17_3 egimages_91 (by omega)), (SGT_put hi_17_4 egimages_91 (by omega) (by omega) ev_86 (by omega) (by decide) (m := v_98.toInt) (by omega))⟩ (by omega) hw97 (lv_sub hl99 [0, 1] rfl)
  exact loop_14 (Int.toNat (160 - 0) + 1) 0 nkeptAt_7 gimages_8 _ _ _ ⟨(by show 0 ≤ (0 : Int32).toInt; have k_0 : (0 : Int32).toInt = 0 := (by decide +kernel); omega), (by show (0 : Int32).toInt ≤ 160; have k_0 : (0 : Int32).toInt = 0 := (by decide +kernel); omega), (by show nkeptAt_7.toInt = 139 + (0 : Int32).toInt; have k_0 : (0 : Int32).toInt = 0 := (by decide +kernel); omega), FRM_nil, (SGT_nil (by decide +kernel))⟩ (by have k_0 : (0 : Int32).toInt = 0 := (by decide +kernel); omega) hw12 (lv_sub hl13 [0, 1] rfl)

set_option maxHeartbeats 4000000 in
set_option maxRecDepth 100000 in
theorem s_keepsLaw0_1 (l : Launch) (D : va_G) (cI cJ : ClassId) (sz M : Nat) (mr : Nat → Nat) (mi : Nat → Int32) (mf : Nat → Nat → Int32) (mg : Nat → Nat → Int64)  (h0 : (mi 66).toInt = 1) (h1 : (mi 68).toInt = 1451) : Met l yX12_keepsLaw (Cond.code yX12_keepsLaw cX12_keepsLaw 3 none :: GW) ({ frames := 2, cells := 0, slots := 0, locals := 61 } : Room) (va_Pc [.ref M, .int 0] (PW D cI cJ sz (MW cI cJ M mr mi mf mg) xT)) (va_Qv (fun (u : Int32 × (Nat → Int32)) => (u.1.toInt = 2300) ∧ (LT1 1451 0 0 (mf 31) (mf 32) (mf 28) (mf 29) (mf 30) (mf 69) u.2 ((mf 27) 0).toInt)) (fun u => QW D cI cJ (va_A (MW cI cJ M mr mi mf mg) sz) ((fun (u : Int32 × (Nat → Int32)) => (MW cI cJ M mr (upd mi 68 u.1) (va_up mf 69 u.2) mg)) u)) (va_A (MW cI cJ M mr mi mf mg) sz)) 0 0 (va_A (MW cI cJ M mr mi mf mg) sz) := by
  refine mk_met (y := yX12_keepsLaw) (bytes := cX12_keepsLaw) (maxL := 3) (avs := [.ref M, .int 0]) (WS := (MW cI cJ M mr mi mf mg)) (Qf := fun A => va_Qv (fun (u : Int32 × (Nat → Int32)) => (u.1.toInt = 2300) ∧ (LT1 1451 0 0 (mf 31) (mf 32) (mf 28) (mf 29) (mf 30) (mf 69) u.2 ((mf 27) 0).toInt)) (fun u => QW D cI cJ A ((fun (u : Int32 × (Nat → Int32)) => (MW cI cJ M mr (upd mi 68 u.1) (va_up mf 69 u.2) mg)) u)) A) (by decide) (Nat.le_of_ble_eq_true rfl) ?_
  intro p e s m below meth c A ls E hr hlk hnm hX hw1 hl2
  have hl3 : lv_has ls 3 [(0, .ref M), (1, .int 0)] := hl2
  refine lv_aload_n (pc := 0) E.1 E.2.1 dX12_keepsLaw_0 rfl (lv_at hl3 0 rfl) ?_
  refine x_get (pc := 1) (T := TX12) (N := 70) (ci := 12) (v := .ref (mr 27)) E hw1 inX12 0 27 q_1426 rfl rfl (by decide) rfl rfl dX12_keepsLaw_1 ?_
  refine lv_iload_n (pc := 4) E.1 E.2.1 dX12_keepsLaw_4 rfl (lv_at hl3 1 rfl) ?_
  refine lv_aload_n (pc := 5) E.1 E.2.1 dX12_keepsLaw_5 rfl (lv_at hl3 0 rfl) ?_
  refine lv_aload_n (pc := 6) E.1 E.2.1 dX12_keepsLaw_6 rfl (lv_at hl3 0 rfl) ?_
  refine x_get (pc := 7) (T := TX12) (N := 70) (ci := 12) (v := .ref (mr 27)) E hw1 inX12 0 27 q_1426 rfl rfl (by decide) rfl rfl dX12_keepsLaw_7 ?_
  refine lv_iload_n (pc := 10) E.1 E.2.1 dX12_keepsLaw_10 rfl (lv_at hl3 1 rfl) ?_
  refine x_iald (pc := 11) (f := (mf 27)) E hw1 14 rfl (inbE (a := 0) (by decide +kernel) (by omega)) dX12_keepsLaw_11 ?_
  refine lv_topi (fun v_4 ev_4 => ?_)
  have hv_4 : v_4.toInt = ((mf 27) 0).toInt := by rw [ev_4]; rfl
  refine cm_i (pc := 12) hw1 (rn_M (As := [.int v_4]) (rest := [.int 0, .ref (mr 27)]) E hw1 (s_kept1 l D cI cJ _ M mr mi mf mg v_4 h0 (by show 0 ≤ (mi 68).toInt ∧ (mi 68).toInt ≤ 3599; omega)) (gdV q_2125 q_2127 q_146 q_162 q_2128) hdV_X12_kept ⟨rfl, rfl⟩ ⟨(Nat.le_of_ble_eq_true rfl), (Nat.le_of_ble_eq_true rfl)⟩ ⟨(Nat.le_of_ble_eq_true rfl), (Nat.le_of_ble_eq_true rfl)⟩ 12 rfl rfl rfl rfl hl3.1 rfl (Nat.le_of_ble_eq_true rfl) dX12_keepsLaw_12) (fun r_6 u_5 H1 locs hp hw7 => ?_)
  obtain ⟨nkeptAt_8, gimages_9⟩ := u_5
  generalize H1 = H at hw7 ⊢
  have hw10 : WD D A s.heap (MW cI cJ M mr (upd mi 68 nkeptAt_8) (va_up mf 69 gimages_9) mg) H locs := hw7
  obtain ⟨hp_11, hp_12⟩ := hp
  have hp_11 : nkeptAt_8.toInt = (mi 68).toInt + 1 := hp_11
  have hp_12 : (gimages_9 = upd (mf 69) ((mi 68)).toNatClampNeg v_4 ∧ r_6 = v_4) := hp_12
  obtain ⟨egimages_9, rfl⟩ := hp_12
  refine x_iastG (pc := 15) (f := (mf 27)) (wf := fun g => (MW cI cJ M mr (upd mi 68 nkeptAt_8) (va_up (va_up mf 27 g) 69 gimages_9) mg)) E hw10 14 rfl (inbE (a := 0) (by decide +kernel) (by omega)) (fun _ => rfl) dX12_keepsLaw_15 (fun g_13 H locs eg_13 hw14 => ?_)
  obtain rfl : g_13 = (mf 27) := by rw [eg_13]; exact upd_same ev_4
  have hw15 : WD D A s.heap (MW cI cJ M mr (upd mi 68 nkeptAt_8) (va_up mf 69 gimages_9) mg) H locs := hw14
  refine lv_bipush (pc := 16) (v := 16) E.1 E.2.1 dX12_keepsLaw_16 (by decide +kernel) ?_
  refine lv_iload_n (pc := 18) E.1 E.2.1 dX12_keepsLaw_18 rfl (lv_at hl3 1 rfl) ?_
  refine lv_imul (pc := 19) E.1 E.2.1 dX12_keepsLaw_19 ?_
  refine tI (y := 0) (by decide +kernel) ?_
  refine lv_istore_n (pc := 20) (lv' := [(2, .int 0), (0, .ref M), (1, .int 0)]) E.1 E.2.1 dX12_keepsLaw_20 rfl hl3 (by decide) rfl (fun ls hl16 => ?_)
  have loop_17 : ∀ (k : Nat) (x_18 : Int32) (x_19 : Int32) (g_20 : Nat → Int32) (H : Heap) (locs : List Loc) (ls : Array Slot), (0 ≤ x_18.toInt) ∧ (x_18.toInt ≤ 16) ∧ (x_19.toInt = 1452 + 3 * x_18.toInt) ∧ (FRM gimages_9 g_20 1452) ∧ (SGT g_20 (mf 28) 0 1452 3 x_18.toInt) ∧ (SGT g_20 (mf 29) 0 1453 3 x_18.toInt) ∧ (SGT g_20 (mf 30) 0 1454 3 x_18.toInt) → 16 - x_18.toInt < (k : Int) → WD D A s.heap (MW cI cJ M mr (upd mi 68 x_19) (va_up mf 69 g_20) mg) H locs → lv_has ls 3 [(2, .int x_18), (0, .ref M), (1, .int 0)] → W p l e ({ frames := 2, cells := 0, slots := 0, locals := 61 } : Room) s m ([.ref M, .int 0] : List Value).toArray below meth c H locs 0 0 (MQ below (va_Qv (fun (u : Int32 × (Nat → Int32)) => (u.1.toInt = 2300) ∧ (LT1 1451 0 0 (mf 31) (mf 32) (mf 28) (mf 29) (mf 30) (mf 69) u.2 ((mf 27) 0).toInt)) (fun u => QW D cI cJ A ((fun (u : Int32 × (Nat → Int32)) => (MW cI cJ M mr (upd mi 68 u.1) (va_up mf 69 u.2) mg)) u)) A) ([.ref M, .int 0] : List Value).toArray s 0 0 A) (F0 m 21 ls []) := by
    intro k
    induction k with
    | zero =>
      intro x_18 x_19 g_20 _ _ _ hinv hm
      obtain ⟨hi_20_0, hi_20_1, hi_20_2, hi_20_3, hi_20_4, hi_20_5, hi_20_6⟩ := hinv
      exact absurd hm (by omega)
    | succ k ih_21 =>
      intro x_18 x_19 g_20 H locs ls hinv hm hw22 hl23
      obtain ⟨hi_20_0, hi_20_1, hi_20_2, hi_20_3, hi_20_4, hi_20_5, hi_20_6⟩ := hinv
      refine lv_iload_n (pc := 21) E.1 E.2.1 dX12_keepsLaw_21 rfl (lv_at hl23 0 rfl) ?_
      refine lv_bipush (pc := 22) (v := 16) E.1 E.2.1 dX12_keepsLaw_22 (by decide +kernel) ?_
      refine lv_iload_n (pc := 24) E.1 E.2.1 dX12_keepsLaw_24 rfl (lv_at hl23 2 rfl) ?_
      refine lv_imul (pc := 25) E.1 E.2.1 dX12_keepsLaw_25 ?_
      refine tI (y := 0) (by decide +kernel) ?_
      refine lv_bipush (pc := 26) (v := 16) E.1 E.2.1 dX12_keepsLaw_26 (by decide +kernel) ?_
      refine lv_iadd (pc := 28) E.1 E.2.1 dX12_keepsLaw_28 ?_
      refine tI (y := 16) (by decide +kernel) ?_
      refine lv_icmp_ge (pc := 29) (tgt := 86) E.1 E.2.1 dX12_keepsLaw_29 (by decide) (fun c_24 => ?_) (fun c_24 => ?_)
      · skip
        have hc_24 := leE (a := 16) (b := x_18.toInt) (by decide +kernel) rfl c_24
        refine lv_sipush (pc := 86) (v := 400) E.1 E.2.1 dX12_keepsLaw_86 (by decide +kernel) ?_
        refine lv_iload_n (pc := 89) E.1 E.2.1 dX12_keepsLaw_89 rfl (lv_at hl23 2 rfl) ?_
        refine lv_imul (pc := 90) E.1 E.2.1 dX12_keepsLaw_90 ?_
        refine tI (y := 0) (by decide +kernel) ?_
        refine lv_istore_n (pc := 91) (lv' := [(2, .int 0), (0, .ref M), (1, .int 0)]) E.1 E.2.1 dX12_keepsLaw_91 rfl hl23 (by decide) rfl (fun ls hl25 => ?_)
        have loop_26 : ∀ (k : Nat) (x_27 : Int32) (x_28 : Int32) (g_29 : Nat → Int32) (H : Heap) (locs : List Loc) (ls : Array Slot), (0 ≤ x_27.toInt) ∧ (x_27.toInt ≤ 400) ∧ (x_28.toInt = 1500 + 2 * x_27.toInt) ∧ (FRM g_20 g_29 1500) ∧ (SGT g_29 (mf 31) 0 1500 2 x_27.toInt) ∧ (SGT g_29 (mf 32) 0 1501 2 x_27.toInt) → 400 - x_27.toInt < (k : Int) → WD D A s.heap (MW cI cJ M mr (upd mi 68 x_28) (va_up mf 69 g_29) mg) H locs → lv_has ls 3 [(2, .int x_27), (0, .ref M), (1, .int 0)] → W p l e ({ frames := 2, cells := 0, slots := 0, locals := 61 } : Room) s m ([.ref M, .int 0] : List Value).toArray below meth c H locs 0 0 (MQ below (va_Qv (fun (u : Int32 × (Nat → Int32)) => (u.1.toInt = 2300) ∧ (LT1 1451 0 0 (mf 31) (mf 32) (mf 28) (mf 29) (mf 30) (mf 69) u.2 ((mf 27) 0).toInt)) (fun u => QW D cI cJ A ((fun (u : Int32 × (Nat → Int32)) => (MW cI cJ M mr (upd mi 68 u.1) (va_up mf 69 u.2) mg)) u)) A) ([.ref M, .int 0] : List Value).toArray s 0 0 A) (F0 m 92 ls []) := by
          intro k
          induction k with
          | zero =>
            intro x_27 x_28 g_29 _ _ _ hinv hm
            obtain ⟨hi_29_0, hi_29_1, hi_29_2, hi_29_3, hi_29_4, hi_29_5⟩ := hinv
            exact absurd hm (by omega)
          | succ k ih_30 =>
            intro x_27 x_28 g_29 H locs ls hinv hm hw31 hl32
            obtain ⟨hi_29_0, hi_29_1, hi_29_2, hi_29_3, hi_29_4, hi_29_5⟩ := hinv
            refine lv_iload_n (pc := 92) E.1 E.2.1 dX12_keepsLaw_92 rfl (lv_at hl32 0 rfl) ?_
            refine lv_sipush (pc := 93) (v := 400) E.1 E.2.1 dX12_keepsLaw_93 (by decide +kernel) ?_
            refine lv_iload_n (pc := 96) E.1 E.2.1 dX12_keepsLaw_96 rfl (lv_at hl32 2 rfl) ?_
            refine lv_imul (pc := 97) E.1 E.2.1 dX12_keepsLaw_97 ?_
            refine tI (y := 0) (by decide +kernel) ?_
            refine lv_sipush (pc := 98) (v := 400) E.1 E.2.1 dX12_keepsLaw_98 (by decide +kernel) ?_
            refine lv_iadd (pc := 101) E.1 E.2.1 dX12_keepsLaw_101 ?_
            refine tI (y := 400) (by decide +kernel) ?_
            refine lv_icmp_ge (pc := 102) (tgt := 143) E.1 E.2.1 dX12_keepsLaw_102 (by decide) (fun c_33 => ?_) (fun c_33 => ?_)
            · skip
              have hc_33 := leE (a := 400) (b := x_27.toInt) (by decide +kernel) rfl c_33
              exact em_v (w1 := (fun (u : Int32 × (Nat → Int32)) => (MW cI cJ M mr (upd mi 68 u.1) (va_up mf 69 u.2) mg))) E hr hlk (x_28, g_29) hw31 ⟨(by show x_28.toInt = 2300; omega), (show LT1 1451 0 0 (mf 31) (mf 32) (mf 28) (mf 29) (mf 30) (mf 69) g_29 ((mf 27) 0).toInt from ⟨(by have q := ((hi_29_3 1451 (by omega)).trans ((hi_20_3 1451 (by omega)).trans (us1 (j := 1451) egimages_9 (by omega) (by omega)))); rw [q, ev_4]; rfl), (SGT_fr (SGT_n hi_20_4 (by omega)) hi_29_3 (fun j hj => by omega)), (SGT_fr (SGT_n hi_20_5 (by omega)) hi_29_3 (fun j hj => by omega)), (SGT_fr (SGT_n hi_20_6 (by omega)) hi_29_3 (fun j hj => by omega)), (SGT_n hi_29_4 (by omega)), (SGT_n hi_29_5 (by omega)), (FRM_fr (FRM_fr (FRM_put FRM_nil egimages_9 (by omega)) hi_20_3 (by decide)) hi_29_3 (by decide))⟩)⟩ (Nat.le_of_ble_eq_true rfl) (Nat.le_of_ble_eq_true rfl) dX12_keepsLaw_143
            · skip
              have hc_33 := nleE (a := 400) (b := x_27.toInt) (by decide +kernel) rfl c_33
              refine lv_aload_n (pc := 105) E.1 E.2.1 dX12_keepsLaw_105 rfl (lv_at hl32 1 rfl) ?_
              refine x_get (pc := 106) (T := TX12) (N := 70) (ci := 12) (v := .ref (mr 31)) E hw31 inX12 0 31 q_1430 rfl rfl (by decide) rfl rfl dX12_keepsLaw_106 ?_
              refine lv_iload_n (pc := 109) E.1 E.2.1 dX12_keepsLaw_109 rfl (lv_at hl32 0 rfl) ?_
              refine lv_aload_n (pc := 110) E.1 E.2.1 dX12_keepsLaw_110 rfl (lv_at hl32 1 rfl) ?_
              refine lv_aload_n (pc := 111) E.1 E.2.1 dX12_keepsLaw_111 rfl (lv_at hl32 1 rfl) ?_
              refine x_get (pc := 112) (T := TX12) (N := 70) (ci := 12) (v := .ref (mr 31)) E hw31 inX12 0 31 q_1430 rfl rfl (by decide) rfl rfl dX12_keepsLaw_112 ?_
              refine lv_iload_n (pc := 115) E.1 E.2.1 dX12_keepsLaw_115 rfl (lv_at hl32 0 rfl) ?_
              refine x_iald (pc := 116) (f := (mf 31)) E hw31 18 rfl (inbE (a := x_27.toInt) rfl (by omega)) dX12_keepsLaw_116 ?_
              refine lv_topi (fun v_34 ev_34 => ?_)
              refine cm_i (pc := 117) hw31 (rn_M (As := [.int v_34]) (rest := [.int x_27, .ref (mr 31)]) E hw31 (s_kept1 l D cI cJ _ M mr (upd mi 68 x_28) (va_up mf 69 g_29) mg v_34 h0 (by show 0 ≤ x_28.toInt ∧ x_28.toInt ≤ 3599; omega)) (gdV q_2125 q_2127 q_146 q_162 q_2128) hdV_X12_kept ⟨rfl, rfl⟩ ⟨(Nat.le_of_ble_eq_true rfl), (Nat.le_of_ble_eq_true rfl)⟩ ⟨(Nat.le_of_ble_eq_true rfl), (Nat.le_of_ble_eq_true rfl)⟩ 12 rfl rfl rfl rfl hl32.1 rfl (Nat.le_of_ble_eq_true rfl) dX12_keepsLaw_117) (fun r_36 u_35 H1 locs hp hw37 => ?_)
              obtain ⟨nkeptAt_38, gimages_39⟩ := u_35
              generalize H1 = H at hw37 ⊢
              have hw40 : WD D A s.heap (MW cI cJ M mr (upd mi 68 nkeptAt_38) (va_up mf 69 gimages_39) mg) H locs := hw37
              obtain ⟨hp_41, hp_42⟩ := hp
              have hp_41 : nkeptAt_38.toInt = x_28.toInt + 1 := hp_41
              have hp_42 : (gimages_39 = upd g_29 (x_28).toNatClampNeg v_34 ∧ r_36 = v_34) := hp_42
              obtain ⟨egimages_39, rfl⟩ := hp_42
              refine x_iastG (pc := 120) (f := (mf 31)) (wf := fun g => (MW cI cJ M mr (upd mi 68 nkeptAt_38) (va_up (va_up mf 31 g) 69 gimages_39) mg)) E hw40 18 rfl (inbE (a := x_27.toInt) rfl (by omega)) (fun _ => rfl) dX12_keepsLaw_120 (fun g_43 H locs eg_43 hw44 => ?_)
              obtain rfl : g_43 = (mf 31) := by rw [eg_43]; exact upd_same ev_34
              have hw45 : WD D A s.heap (MW cI cJ M mr (upd mi 68 nkeptAt_38) (va_up mf 69 gimages_39) mg) H locs := hw44
              refine lv_aload_n (pc := 121) E.1 E.2.1 dX12_keepsLaw_121 rfl (lv_at hl32 1 rfl) ?_
              refine x_get (pc := 122) (T := TX12) (N := 70) (ci := 12) (v := .ref (mr 32)) E hw45 inX12 0 32 q_1431 rfl rfl (by decide) rfl rfl dX12_keepsLaw_122 ?_
              refine lv_iload_n (pc := 125) E.1 E.2.1 dX12_keepsLaw_125 rfl (lv_at hl32 0 rfl) ?_
              refine lv_aload_n (pc := 126) E.1 E.2.1 dX12_keepsLaw_126 rfl (lv_at hl32 1 rfl) ?_
              refine lv_aload_n (pc := 127) E.1 E.2.1 dX12_keepsLaw_127 rfl (lv_at hl32 1 rfl) ?_
              refine x_get (pc := 128) (T := TX12) (N := 70) (ci := 12) (v := .ref (mr 32)) E hw45 inX12 0 32 q_1431 rfl rfl (by decide) rfl rfl dX12_keepsLaw_128 ?_
              refine lv_iload_n (pc := 131) E.1 E.2.1 dX12_keepsLaw_131 rfl (lv_at hl32 0 rfl) ?_
              refine x_iald (pc := 132) (f := (mf 32)) E hw45 19 rfl (inbE (a := x_27.toInt) rfl (by omega)) dX12_keepsLaw_132 ?_
              refine lv_topi (fun v_46 ev_46 => ?_)
              refine cm_i (pc := 133) hw45 (rn_M (As := [.int v_46]) (rest := [.int x_27, .ref (mr 32)]) E hw45 (s_kept1 l D cI cJ _ M mr (upd mi 68 nkeptAt_38) (va_up mf 69 gimages_39) mg v_46 h0 (by show 0 ≤ nkeptAt_38.toInt ∧ nkeptAt_38.toInt ≤ 3599; omega)) (gdV q_2125 q_2127 q_146 q_162 q_2128) hdV_X12_kept ⟨rfl, rfl⟩ ⟨(Nat.le_of_ble_eq_true rfl), (Nat.le_of_ble_eq_true rfl)⟩ ⟨(Nat.le_of_ble_eq_true rfl), (Nat.le_of_ble_eq_true rfl)⟩ 12 rfl rfl rfl rfl hl32.1 rfl (Nat.le_of_ble_eq_true rfl) dX12_keepsLaw_133) (fun r_48 u_47 H1 locs hp hw49 => ?_)
              obtain ⟨nkeptAt_50, gimages_51⟩ := u_47
              generalize H1 = H at hw49 ⊢
              have hw52 : WD D A s.heap (MW cI cJ M mr (upd mi 68 nkeptAt_50) (va_up mf 69 gimages_51) mg) H locs := hw49
              obtain ⟨hp_53, hp_54⟩ := hp
              have hp_53 : nkeptAt_50.toInt = nkeptAt_38.toInt + 1 := hp_53
              have hp_54 : (gimages_51 = upd gimages_39 (nkeptAt_38).toNatClampNeg v_46 ∧ r_48 = v_46) := hp_54
              obtain ⟨egimages_51, rfl⟩ := hp_54
              refine x_iastG (pc := 136) (f := (mf 32)) (wf := fun g => (MW cI cJ M mr (upd mi 68 nkeptAt_50) (va_up (va_up mf 32 g) 69 gimages_51) mg)) E hw52 19 rfl (inbE (a := x_27.toInt) rfl (by omega)) (fun _ => rfl) dX12_keepsLaw_136 (fun g_55 H locs eg_55 hw56 => ?_)
              obtain rfl : g_55 = (mf 32) := by rw [eg_55]; exact upd_same ev_46
              have hw57 : WD D A s.heap (MW cI cJ M mr (upd mi 68 nkeptAt_50) (va_up mf 69 gimages_51) mg) H locs := hw56
              obtain ⟨v_58, ev_58⟩ : ∃ z : Int32, x_27 + Int32.ofInt (1) = z := ⟨_, rfl⟩
              have hv_58 : v_58.toInt = x_27.toInt + (1) := by rw [← ev_58]; exact incE rfl (by decide) (by omega)
              refine lv_iinc (pc := 137) (v := v_58) (lv' := [(2, .int v_58), (0, .ref M), (1, .int 0)]) E.1 E.2.1 dX12_keepsLaw_137 hl32 (k := 0) rfl ev_58 (by decide) rfl (fun ls hl59 => ?_)
              refine lv_goto (pc := 140) (tgt := 92) E.1 E.2.1 dX12_keepsLaw_140 (by decide) ?_
              exact ih_30 v_58 nkeptAt_50 gimages_51 _ _ _ ⟨(by show 0 ≤ v_58.toInt; omega), (by show v_58.toInt ≤ 400; omega), (by show nkeptAt_50.toInt = 1500 + 2 * v_58.toInt; omega), (FRM_put (FRM_put hi_29_3 egimages_39 (by omega)) egimages_51 (by omega)), (SGT_keep (SGT_put hi_29_4 egimages_39 (by omega) (by omega) ev_34 (by omega) (by decide) (m := v_58.toInt) (by omega)) egimages_51 (by omega) (fun j hj => by omega)), (SGT_put (SGT_keep hi_29_5 egimages_39 (by omega) (fun j hj => by omega)) egimages_51 (by omega) (by omega) ev_46 (by omega) (by decide) (m := v_58.toInt) (by omega))⟩ (by omega) hw57 (lv_sub hl59 [0, 1, 2] rfl)
        exact loop_26 (Int.toNat (400 - 0) + 1) 0 x_19 g_20 _ _ _ ⟨(by show 0 ≤ (0 : Int32).toInt; have k_0 : (0 : Int32).toInt = 0 := (by decide +kernel); omega), (by show (0 : Int32).toInt ≤ 400; have k_0 : (0 : Int32).toInt = 0 := (by decide +kernel); omega), (by show x_19.toInt = 1500 + 2 * (0 : Int32).toInt; have k_0 : (0 : Int32).toInt = 0 := (by decide +kernel); omega), FRM_nil, (SGT_nil (by decide +kernel)), (SGT_nil (by decide +kernel))⟩ (by have k_0 : (0 : Int32).toInt = 0 := (by decide +kernel); omega) hw22 (lv_sub hl25 [0, 1, 2] rfl)
      · skip
        have hc_24 := nleE (a := 16) (b := x_18.toInt) (by decide +kernel) rfl c_24
        refine lv_aload_n (pc := 32) E.1 E.2.1 dX12_keepsLaw_32 rfl (lv_at hl23 1 rfl) ?_
        refine x_get (pc := 33) (T := TX12) (N := 70) (ci := 12) (v := .ref (mr 28)) E hw22 inX12 0 28 q_1427 rfl rfl (by decide) rfl rfl dX12_keepsLaw_33 ?_
        refine lv_iload_n (pc := 36) E.1 E.2.1 dX12_keepsLaw_36 rfl (lv_at hl23 0 rfl) ?_
        refine lv_aload_n (pc := 37) E.1 E.2.1 dX12_keepsLaw_37 rfl (lv_at hl23 1 rfl) ?_
        refine lv_aload_n (pc := 38) E.1 E.2.1 dX12_keepsLaw_38 rfl (lv_at hl23 1 rfl) ?_
        refine x_get (pc := 39) (T := TX12) (N := 70) (ci := 12) (v := .ref (mr 28)) E hw22 inX12 0 28 q_1427 rfl rfl (by decide) rfl rfl dX12_keepsLaw_39 ?_
        refine lv_iload_n (pc := 42) E.1 E.2.1 dX12_keepsLaw_42 rfl (lv_at hl23 0 rfl) ?_
        refine x_iald (pc := 43) (f := (mf 28)) E hw22 15 rfl (inbE (a := x_18.toInt) rfl (by omega)) dX12_keepsLaw_43 ?_
        refine lv_topi (fun v_60 ev_60 => ?_)
        refine cm_i (pc := 44) hw22 (rn_M (As := [.int v_60]) (rest := [.int x_18, .ref (mr 28)]) E hw22 (s_kept1 l D cI cJ _ M mr (upd mi 68 x_19) (va_up mf 69 g_20) mg v_60 h0 (by show 0 ≤ x_19.toInt ∧ x_19.toInt ≤ 3599; omega)) (gdV q_2125 q_2127 q_146 q_162 q_2128) hdV_X12_kept ⟨rfl, rfl⟩ ⟨(Nat.le_of_ble_eq_true rfl), (Nat.le_of_ble_eq_true rfl)⟩ ⟨(Nat.le_of_ble_eq_true rfl), (Nat.le_of_ble_eq_true rfl)⟩ 12 rfl rfl rfl rfl hl23.1 rfl (Nat.le_of_ble_eq_true rfl) dX12_keepsLaw_44) (fun r_62 u_61 H1 locs hp hw63 => ?_)
        obtain ⟨nkeptAt_64, gimages_65⟩ := u_61
        generalize H1 = H at hw63 ⊢
        have hw66 : WD D A s.heap (MW cI cJ M mr (upd mi 68 nkeptAt_64) (va_up mf 69 gimages_65) mg) H locs := hw63
        obtain ⟨hp_67, hp_68⟩ := hp
        have hp_67 : nkeptAt_64.toInt = x_19.toInt + 1 := hp_67
        have hp_68 : (gimages_65 = upd g_20 (x_19).toNatClampNeg v_60 ∧ r_62 = v_60) := hp_68
        obtain ⟨egimages_65, rfl⟩ := hp_68
        refine x_iastG (pc := 47) (f := (mf 28)) (wf := fun g => (MW cI cJ M mr (upd mi 68 nkeptAt_64) (va_up (va_up mf 28 g) 69 gimages_65) mg)) E hw66 15 rfl (inbE (a := x_18.toInt) rfl (by omega)) (fun _ => rfl) dX12_keepsLaw_47 (fun g_69 H locs eg_69 hw70 => ?_)
        obtain rfl : g_69 = (mf 28) := by rw [eg_69]; exact upd_same ev_60
        have hw71 : WD D A s.heap (MW cI cJ M mr (upd mi 68 nkeptAt_64) (va_up mf 69 gimages_65) mg) H locs := hw70
        refine lv_aload_n (pc := 48) E.1 E.2.1 dX12_keepsLaw_48 rfl (lv_at hl23 1 rfl) ?_
        refine x_get (pc := 49) (T := TX12) (N := 70) (ci := 12) (v := .ref (mr 29)) E hw71 inX12 0 29 q_1428 rfl rfl (by decide) rfl rfl dX12_keepsLaw_49 ?_
        refine lv_iload_n (pc := 52) E.1 E.2.1 dX12_keepsLaw_52 rfl (lv_at hl23 0 rfl) ?_
        refine lv_aload_n (pc := 53) E.1 E.2.1 dX12_keepsLaw_53 rfl (lv_at hl23 1 rfl) ?_
        refine lv_aload_n (pc := 54) E.1 E.2.1 dX12_keepsLaw_54 rfl (lv_at hl23 1 rfl) ?_
        refine x_get (pc := 55) (T := TX12) (N := 70) (ci := 12) (v := .ref (mr 29)) E hw71 inX12 0 29 q_1428 rfl rfl (by decide) rfl rfl dX12_keepsLaw_55 ?_
        refine lv_iload_n (pc := 58) E.1 E.2.1 dX12_keepsLaw_58 rfl (lv_at hl23 0 rfl) ?_
        refine x_iald (pc := 59) (f := (mf 29)) E hw71 16 rfl (inbE (a := x_18.toInt) rfl (by omega)) dX12_keepsLaw_59 ?_
        refine lv_topi (fun v_72 ev_72 => ?_)
        refine cm_i (pc := 60) hw71 (rn_M (As := [.int v_72]) (rest := [.int x_18, .ref (mr 29)]) E hw71 (s_kept1 l D cI cJ _ M mr (upd mi 68 nkeptAt_64) (va_up mf 69 gimages_65) mg v_72 h0 (by show 0 ≤ nkeptAt_64.toInt ∧ nkeptAt_64.toInt ≤ 3599; omega)) (gdV q_2125 q_2127 q_146 q_162 q_2128) hdV_X12_kept ⟨rfl, rfl⟩ ⟨(Nat.le_of_ble_eq_true rfl), (Nat.le_of_ble_eq_true rfl)⟩ ⟨(Nat.le_of_ble_eq_true rfl), (Nat.le_of_ble_eq_true rfl)⟩ 12 rfl rfl rfl rfl hl23.1 rfl (Nat.le_of_ble_eq_true rfl) dX12_keepsLaw_60) (fun r_74 u_73 H1 locs hp hw75 => ?_)
        obtain ⟨nkeptAt_76, gimages_77⟩ := u_73
        generalize H1 = H at hw75 ⊢
        have hw78 : WD D A s.heap (MW cI cJ M mr (upd mi 68 nkeptAt_76) (va_up mf 69 gimages_77) mg) H locs := hw75
        obtain ⟨hp_79, hp_80⟩ := hp
        have hp_79 : nkeptAt_76.toInt = nkeptAt_64.toInt + 1 := hp_79
        have hp_80 : (gimages_77 = upd gimages_65 (nkeptAt_64).toNatClampNeg v_72 ∧ r_74 = v_72) := hp_80
        obtain ⟨egimages_77, rfl⟩ := hp_80
        refine x_iastG (pc := 63) (f := (mf 29)) (wf := fun g => (MW cI cJ M mr (upd mi 68 nkeptAt_76) (va_up (va_up mf 29 g) 69 gimages_77) mg)) E hw78 16 rfl (inbE (a := x_18.toInt) rfl (by omega)) (fun _ => rfl) dX12_keepsLaw_63 (fun g_81 H locs eg_81 hw82 => ?_)
        obtain rfl : g_81 = (mf 29) := by rw [eg_81]; exact upd_same ev_72
        have hw83 : WD D A s.heap (MW cI cJ M mr (upd mi 68 nkeptAt_76) (va_up mf 69 gimages_77) mg) H locs := hw82
        refine lv_aload_n (pc := 64) E.1 E.2.1 dX12_keepsLaw_64 rfl (lv_at hl23 1 rfl) ?_
        refine x_get (pc := 65) (T := TX12) (N := 70) (ci := 12) (v := .ref (mr 30)) E hw83 inX12 0 30 q_1429 rfl rfl (by decide) rfl rfl dX12_keepsLaw_65 ?_
        refine lv_iload_n (pc := 68) E.1 E.2.1 dX12_keepsLaw_68 rfl (lv_at hl23 0 rfl) ?_
        refine lv_aload_n (pc := 69) E.1 E.2.1 dX12_keepsLaw_69 rfl (lv_at hl23 1 rfl) ?_
        refine lv_aload_n (pc := 70) E.1 E.2.1 dX12_keepsLaw_70 rfl (lv_at hl23 1 rfl) ?_
        refine x_get (pc := 71) (T := TX12) (N := 70) (ci := 12) (v := .ref (mr 30)) E hw83 inX12 0 30 q_1429 rfl rfl (by decide) rfl rfl dX12_keepsLaw_71 ?_
        refine lv_iload_n (pc := 74) E.1 E.2.1 dX12_keepsLaw_74 rfl (lv_at hl23 0 rfl) ?_
        refine x_iald (pc := 75) (f := (mf 30)) E hw83 17 rfl (inbE (a := x_18.toInt) rfl (by omega)) dX12_keepsLaw_75 ?_
        refine lv_topi (fun v_84 ev_84 => ?_)
        refine cm_i (pc := 76) hw83 (rn_M (As := [.int v_84]) (rest := [.int x_18, .ref (mr 30)]) E hw83 (s_kept1 l D cI cJ _ M mr (upd mi 68 nkeptAt_76) (va_up mf 69 gimages_77) mg v_84 h0 (by show 0 ≤ nkeptAt_76.toInt ∧ nkeptAt_76.toInt ≤ 3599; omega)) (gdV q_2125 q_2127 q_146 q_162 q_2128) hdV_X12_kept ⟨rfl, rfl⟩ ⟨(Nat.le_of_ble_eq_true rfl), (Nat.le_of_ble_eq_true rfl)⟩ ⟨(Nat.le_of_ble_eq_true rfl), (Nat.le_of_ble_eq_true rfl)⟩ 12 rfl rfl rfl rfl hl23.1 rfl (Nat.le_of_ble_eq_true rfl) dX12_keepsLaw_76) (fun r_86 u_85 H1 locs hp hw87 => ?_)
        obtain ⟨nkeptAt_88, gimages_89⟩ := u_85
        generalize H1 = H at hw87 ⊢
        have hw90 : WD D A s.heap (MW cI cJ M mr (upd mi 68 nkeptAt_88) (va_up mf 69 gimages_89) mg) H locs := hw87
        obtain ⟨hp_91, hp_92⟩ := hp
        have hp_91 : nkeptAt_88.toInt = nkeptAt_76.toInt + 1 := hp_91
        have hp_92 : (gimages_89 = upd gimages_77 (nkeptAt_76).toNatClampNeg v_84 ∧ r_86 = v_84) := hp_92
        obtain ⟨egimages_89, rfl⟩ := hp_92
        refine x_iastG (pc := 79) (f := (mf 30)) (wf := fun g => (MW cI cJ M mr (upd mi 68 nkeptAt_88) (va_up (va_up mf 30 g) 69 gimages_89) mg)) E hw90 17 rfl (inbE (a := x_18.toInt) rfl (by omega)) (fun _ => rfl) dX12_keepsLaw_79 (fun g_93 H locs eg_93 hw94 => ?_)
        obtain rfl : g_93 = (mf 30) := by rw [eg_93]; exact upd_same ev_84
        have hw95 : WD D A s.heap (MW cI cJ M mr (upd mi 68 nkeptAt_88) (va_up mf 69 gimages_89) mg) H locs := hw94
        obtain ⟨v_96, ev_96⟩ : ∃ z : Int32, x_18 + Int32.ofInt (1) = z := ⟨_, rfl⟩
        have hv_96 : v_96.toInt = x_18.toInt + (1) := by rw [← ev_96]; exact incE rfl (by decide) (by omega)
        refine lv_iinc (pc := 80) (v := v_96) (lv' := [(2, .int v_96), (0, .ref M), (1, .int 0)]) E.1 E.2.1 dX12_keepsLaw_80 hl23 (k := 0) rfl ev_96 (by decide) rfl (fun ls hl97 => ?_)
        refine lv_goto (pc := 83) (tgt := 21) E.1 E.2.1 dX12_keepsLaw_83 (by decide) ?_
        exact ih_21 v_96 nkeptAt_88 gimages_89 _ _ _ ⟨(by show 0 ≤ v_96.toInt; omega), (by show v_96.toInt ≤ 16; omega), (by show nkeptAt_88.toInt = 1452 + 3 * v_96.toInt; omega), (FRM_put (FRM_put (FRM_put hi_20_3 egimages_65 (by omega)) egimages_77 (by omega)) egimages_89 (by omega)), (SGT_keep (SGT_keep (SGT_put hi_20_4 egimages_65 (by omega) (by omega) ev_60 (by omega) (by decide) (m := v_96.toInt) (by omega)) egimages_77 (by omega) (fun j hj => by omega)) egimages_89 (by omega) (fun j hj => by omega)), (SGT_keep (SGT_put (SGT_keep hi_20_5 egimages_65 (by omega) (fun j hj => by omega)) egimages_77 (by omega) (by omega) ev_72 (by omega) (by decide) (m := v_96.toInt) (by omega)) egimages_89 (by omega) (fun j hj => by omega)), (SGT_put (SGT_keep (SGT_keep hi_20_6 egimages_65 (by omega) (fun j hj => by omega)) egimages_77 (by omega) (fun j hj => by omega)) egimages_89 (by omega) (by omega) ev_84 (by omega) (by decide) (m := v_96.toInt) (by omega))⟩ (by omega) hw95 (lv_sub hl97 [0, 1, 2] rfl)
  exact loop_17 (Int.toNat (16 - 0) + 1) 0 nkeptAt_8 gimages_9 _ _ _ ⟨(by show 0 ≤ (0 : Int32).toInt; have k_0 : (0 : Int32).toInt = 0 := (by decide +kernel); omega), (by show (0 : Int32).toInt ≤ 16; have k_0 : (0 : Int32).toInt = 0 := (by decide +kernel); omega), (by show nkeptAt_8.toInt = 1452 + 3 * (0 : Int32).toInt; have k_0 : (0 : Int32).toInt = 0 := (by decide +kernel); omega), FRM_nil, (SGT_nil (by decide +kernel)), (SGT_nil (by decide +kernel)), (SGT_nil (by decide +kernel))⟩ (by have k_0 : (0 : Int32).toInt = 0 := (by decide +kernel); omega) hw15 (lv_sub hl16 [0, 1, 2] rfl)

set_option maxHeartbeats 4000000 in
set_option maxRecDepth 100000 in
theorem s_keepsLaw1_1 (l : Launch) (D : va_G) (cI cJ : ClassId) (sz M : Nat) (mr : Nat → Nat) (mi : Nat → Int32) (mf : Nat → Nat → Int32) (mg : Nat → Nat → Int64)  (h0 : (mi 66).toInt = 1) (h1 : (mi 68).toInt = 2300) : Met l yX12_keepsLaw (Cond.code yX12_keepsLaw cX12_keepsLaw 3 none :: GW) ({ frames := 2, cells := 0, slots := 0, locals := 61 } : Room) (va_Pc [.ref M, .int 1] (PW D cI cJ sz (MW cI cJ M mr mi mf mg) xT)) (va_Qv (fun (u : Int32 × (Nat → Int32)) => (u.1.toInt = 3149) ∧ (LT1 2300 16 400 (mf 31) (mf 32) (mf 28) (mf 29) (mf 30) (mf 69) u.2 ((mf 27) 1).toInt)) (fun u => QW D cI cJ (va_A (MW cI cJ M mr mi mf mg) sz) ((fun (u : Int32 × (Nat → Int32)) => (MW cI cJ M mr (upd mi 68 u.1) (va_up mf 69 u.2) mg)) u)) (va_A (MW cI cJ M mr mi mf mg) sz)) 0 0 (va_A (MW cI cJ M mr mi mf mg) sz) := by
  refine mk_met (y := yX12_keepsLaw) (bytes := cX12_keepsLaw) (maxL := 3) (avs := [.ref M, .int 1]) (WS := (MW cI cJ M mr mi mf mg)) (Qf := fun A => va_Qv (fun (u : Int32 × (Nat → Int32)) => (u.1.toInt = 3149) ∧ (LT1 2300 16 400 (mf 31) (mf 32) (mf 28) (mf 29) (mf 30) (mf 69) u.2 ((mf 27) 1).toInt)) (fun u => QW D cI cJ A ((fun (u : Int32 × (Nat → Int32)) => (MW cI cJ M mr (upd mi 68 u.1) (va_up mf 69 u.2) mg)) u)) A) (by decide) (Nat.le_of_ble_eq_true rfl) ?_
  intro p e s m below meth c A ls E hr hlk hnm hX hw1 hl2
  have hl3 : lv_has ls 3 [(0, .ref M), (1, .int 1)] := hl2
  refine lv_aload_n (pc := 0) E.1 E.2.1 dX12_keepsLaw_0 rfl (lv_at hl3 0 rfl) ?_
  refine x_get (pc := 1) (T := TX12) (N := 70) (ci := 12) (v := .ref (mr 27)) E hw1 inX12 0 27 q_1426 rfl rfl (by decide) rfl rfl dX12_keepsLaw_1 ?_
  refine lv_iload_n (pc := 4) E.1 E.2.1 dX12_keepsLaw_4 rfl (lv_at hl3 1 rfl) ?_
  refine lv_aload_n (pc := 5) E.1 E.2.1 dX12_keepsLaw_5 rfl (lv_at hl3 0 rfl) ?_
  refine lv_aload_n (pc := 6) E.1 E.2.1 dX12_keepsLaw_6 rfl (lv_at hl3 0 rfl) ?_
  refine x_get (pc := 7) (T := TX12) (N := 70) (ci := 12) (v := .ref (mr 27)) E hw1 inX12 0 27 q_1426 rfl rfl (by decide) rfl rfl dX12_keepsLaw_7 ?_
  refine lv_iload_n (pc := 10) E.1 E.2.1 dX12_keepsLaw_10 rfl (lv_at hl3 1 rfl) ?_
  refine x_iald (pc := 11) (f := (mf 27)) E hw1 14 rfl (inbE (a := 1) (by decide +kernel) (by omega)) dX12_keepsLaw_11 ?_
  refine lv_topi (fun v_4 ev_4 => ?_)
  have hv_4 : v_4.toInt = ((mf 27) 1).toInt := by rw [ev_4]; rfl
  refine cm_i (pc := 12) hw1 (rn_M (As := [.int v_4]) (rest := [.int 1, .ref (mr 27)]) E hw1 (s_kept1 l D cI cJ _ M mr mi mf mg v_4 h0 (by show 0 ≤ (mi 68).toInt ∧ (mi 68).toInt ≤ 3599; omega)) (gdV q_2125 q_2127 q_146 q_162 q_2128) hdV_X12_kept ⟨rfl, rfl⟩ ⟨(Nat.le_of_ble_eq_true rfl), (Nat.le_of_ble_eq_true rfl)⟩ ⟨(Nat.le_of_ble_eq_true rfl), (Nat.le_of_ble_eq_true rfl)⟩ 12 rfl rfl rfl rfl hl3.1 rfl (Nat.le_of_ble_eq_true rfl) dX12_keepsLaw_12) (fun r_6 u_5 H1 locs hp hw7 => ?_)
  obtain ⟨nkeptAt_8, gimages_9⟩ := u_5
  generalize H1 = H at hw7 ⊢
  have hw10 : WD D A s.heap (MW cI cJ M mr (upd mi 68 nkeptAt_8) (va_up mf 69 gimages_9) mg) H locs := hw7
  obtain ⟨hp_11, hp_12⟩ := hp
  have hp_11 : nkeptAt_8.toInt = (mi 68).toInt + 1 := hp_11
  have hp_12 : (gimages_9 = upd (mf 69) ((mi 68)).toNatClampNeg v_4 ∧ r_6 = v_4) := hp_12
  obtain ⟨egimages_9, rfl⟩ := hp_12
  refine x_iastG (pc := 15) (f := (mf 27)) (wf := fun g => (MW cI cJ M mr (upd mi 68 nkeptAt_8) (va_up (va_up mf 27 g) 69 gimages_9) mg)) E hw10 14 rfl (inbE (a := 1) (by decide +kernel) (by omega)) (fun _ => rfl) dX12_keepsLaw_15 (fun g_13 H locs eg_13 hw14 => ?_)
  obtain rfl : g_13 = (mf 27) := by rw [eg_13]; exact upd_same ev_4
  have hw15 : WD D A s.heap (MW cI cJ M mr (upd mi 68 nkeptAt_8) (va_up mf 69 gimages_9) mg) H locs := hw14
  refine lv_bipush (pc := 16) (v := 16) E.1 E.2.1 dX12_keepsLaw_16 (by decide +kernel) ?_
  refine lv_iload_n (pc := 18) E.1 E.2.1 dX12_keepsLaw_18 rfl (lv_at hl3 1 rfl) ?_
  refine lv_imul (pc := 19) E.1 E.2.1 dX12_keepsLaw_19 ?_
  refine tI (y := 16) (by decide +kernel) ?_
  refine lv_istore_n (pc := 20) (lv' := [(2, .int 16), (0, .ref M), (1, .int 1)]) E.1 E.2.1 dX12_keepsLaw_20 rfl hl3 (by decide) rfl (fun ls hl16 => ?_)
  have loop_17 : ∀ (k : Nat) (x_18 : Int32) (x_19 : Int32) (g_20 : Nat → Int32) (H : Heap) (locs : List Loc) (ls : Array Slot), (16 ≤ x_18.toInt) ∧ (x_18.toInt ≤ 32) ∧ (x_19.toInt = 2253 + 3 * x_18.toInt) ∧ (FRM gimages_9 g_20 2301) ∧ (SGT g_20 (mf 28) 16 2301 3 (x_18.toInt - 16)) ∧ (SGT g_20 (mf 29) 16 2302 3 (x_18.toInt - 16)) ∧ (SGT g_20 (mf 30) 16 2303 3 (x_18.toInt - 16)) → 32 - x_18.toInt < (k : Int) → WD D A s.heap (MW cI cJ M mr (upd mi 68 x_19) (va_up mf 69 g_20) mg) H locs → lv_has ls 3 [(2, .int x_18), (0, .ref M), (1, .int 1)] → W p l e ({ frames := 2, cells := 0, slots := 0, locals := 61 } : Room) s m ([.ref M, .int 1] : List Value).toArray below meth c H locs 0 0 (MQ below (va_Qv (fun (u : Int32 × (Nat → Int32)) => (u.1.toInt = 3149) ∧ (LT1 2300 16 400 (mf 31) (mf 32) (mf 28) (mf 29) (mf 30) (mf 69) u.2 ((mf 27) 1).toInt)) (fun u => QW D cI cJ A ((fun (u : Int32 × (Nat → Int32)) => (MW cI cJ M mr (upd mi 68 u.1) (va_up mf 69 u.2) mg)) u)) A) ([.ref M, .int 1] : List Value).toArray s 0 0 A) (F0 m 21 ls []) := by
    intro k
    induction k with
    | zero =>
      intro x_18 x_19 g_20 _ _ _ hinv hm
      obtain ⟨hi_20_0, hi_20_1, hi_20_2, hi_20_3, hi_20_4, hi_20_5, hi_20_6⟩ := hinv
      exact absurd hm (by omega)
    | succ k ih_21 =>
      intro x_18 x_19 g_20 H locs ls hinv hm hw22 hl23
      obtain ⟨hi_20_0, hi_20_1, hi_20_2, hi_20_3, hi_20_4, hi_20_5, hi_20_6⟩ := hinv
      refine lv_iload_n (pc := 21) E.1 E.2.1 dX12_keepsLaw_21 rfl (lv_at hl23 0 rfl) ?_
      refine lv_bipush (pc := 22) (v := 16) E.1 E.2.1 dX12_keepsLaw_22 (by decide +kernel) ?_
      refine lv_iload_n (pc := 24) E.1 E.2.1 dX12_keepsLaw_24 rfl (lv_at hl23 2 rfl) ?_
      refine lv_imul (pc := 25) E.1 E.2.1 dX12_keepsLaw_25 ?_
      refine tI (y := 16) (by decide +kernel) ?_
      refine lv_bipush (pc := 26) (v := 16) E.1 E.2.1 dX12_keepsLaw_26 (by decide +kernel) ?_
      refine lv_iadd (pc := 28) E.1 E.2.1 dX12_keepsLaw_28 ?_
      refine tI (y := 32) (by decide +kernel) ?_
      refine lv_icmp_ge (pc := 29) (tgt := 86) E.1 E.2.1 dX12_keepsLaw_29 (by decide) (fun c_24 => ?_) (fun c_24 => ?_)
      · skip
        have hc_24 := leE (a := 32) (b := x_18.toInt) (by decide +kernel) rfl c_24
        refine lv_sipush (pc := 86) (v := 400) E.1 E.2.1 dX12_keepsLaw_86 (by decide +kernel) ?_
        refine lv_iload_n (pc := 89) E.1 E.2.1 dX12_keepsLaw_89 rfl (lv_at hl23 2 rfl) ?_
        refine lv_imul (pc := 90) E.1 E.2.1 dX12_keepsLaw_90 ?_
        refine tI (y := 400) (by decide +kernel) ?_
        refine lv_istore_n (pc := 91) (lv' := [(2, .int 400), (0, .ref M), (1, .int 1)]) E.1 E.2.1 dX12_keepsLaw_91 rfl hl23 (by decide) rfl (fun ls hl25 => ?_)
        have loop_26 : ∀ (k : Nat) (x_27 : Int32) (x_28 : Int32) (g_29 : Nat → Int32) (H : Heap) (locs : List Loc) (ls : Array Slot), (400 ≤ x_27.toInt) ∧ (x_27.toInt ≤ 800) ∧ (x_28.toInt = 1549 + 2 * x_27.toInt) ∧ (FRM g_20 g_29 2349) ∧ (SGT g_29 (mf 31) 400 2349 2 (x_27.toInt - 400)) ∧ (SGT g_29 (mf 32) 400 2350 2 (x_27.toInt - 400)) → 800 - x_27.toInt < (k : Int) → WD D A s.heap (MW cI cJ M mr (upd mi 68 x_28) (va_up mf 69 g_29) mg) H locs → lv_has ls 3 [(2, .int x_27), (0, .ref M), (1, .int 1)] → W p l e ({ frames := 2, cells := 0, slots := 0, locals := 61 } : Room) s m ([.ref M, .int 1] : List Value).toArray below meth c H locs 0 0 (MQ below (va_Qv (fun (u : Int32 × (Nat → Int32)) => (u.1.toInt = 3149) ∧ (LT1 2300 16 400 (mf 31) (mf 32) (mf 28) (mf 29) (mf 30) (mf 69) u.2 ((mf 27) 1).toInt)) (fun u => QW D cI cJ A ((fun (u : Int32 × (Nat → Int32)) => (MW cI cJ M mr (upd mi 68 u.1) (va_up mf 69 u.2) mg)) u)) A) ([.ref M, .int 1] : List Value).toArray s 0 0 A) (F0 m 92 ls []) := by
          intro k
          induction k with
          | zero =>
            intro x_27 x_28 g_29 _ _ _ hinv hm
            obtain ⟨hi_29_0, hi_29_1, hi_29_2, hi_29_3, hi_29_4, hi_29_5⟩ := hinv
            exact absurd hm (by omega)
          | succ k ih_30 =>
            intro x_27 x_28 g_29 H locs ls hinv hm hw31 hl32
            obtain ⟨hi_29_0, hi_29_1, hi_29_2, hi_29_3, hi_29_4, hi_29_5⟩ := hinv
            refine lv_iload_n (pc := 92) E.1 E.2.1 dX12_keepsLaw_92 rfl (lv_at hl32 0 rfl) ?_
            refine lv_sipush (pc := 93) (v := 400) E.1 E.2.1 dX12_keepsLaw_93 (by decide +kernel) ?_
            refine lv_iload_n (pc := 96) E.1 E.2.1 dX12_keepsLaw_96 rfl (lv_at hl32 2 rfl) ?_
            refine lv_imul (pc := 97) E.1 E.2.1 dX12_keepsLaw_97 ?_
            refine tI (y := 400) (by decide +kernel) ?_
            refine lv_sipush (pc := 98) (v := 400) E.1 E.2.1 dX12_keepsLaw_98 (by decide +kernel) ?_
            refine lv_iadd (pc := 101) E.1 E.2.1 dX12_keepsLaw_101 ?_
            refine tI (y := 800) (by decide +kernel) ?_
            refine lv_icmp_ge (pc := 102) (tgt := 143) E.1 E.2.1 dX12_keepsLaw_102 (by decide) (fun c_33 => ?_) (fun c_33 => ?_)
            · skip
              have hc_33 := leE (a := 800) (b := x_27.toInt) (by decide +kernel) rfl c_33
              exact em_v (w1 := (fun (u : Int32 × (Nat → Int32)) => (MW cI cJ M mr (upd mi 68 u.1) (va_up mf 69 u.2) mg))) E hr hlk (x_28, g_29) hw31 ⟨(by show x_28.toInt = 3149; omega), (show LT1 2300 16 400 (mf 31) (mf 32) (mf 28) (mf 29) (mf 30) (mf 69) g_29 ((mf 27) 1).toInt from ⟨(by have q := ((hi_29_3 2300 (by omega)).trans ((hi_20_3 2300 (by omega)).trans (us1 (j := 2300) egimages_9 (by omega) (by omega)))); rw [q, ev_4]; rfl), (SGT_fr (SGT_n hi_20_4 (by omega)) hi_29_3 (fun j hj => by omega)), (SGT_fr (SGT_n hi_20_5 (by omega)) hi_29_3 (fun j hj => by omega)), (SGT_fr (SGT_n hi_20_6 (by omega)) hi_29_3 (fun j hj => by omega)), (SGT_n hi_29_4 (by omega)), (SGT_n hi_29_5 (by omega)), (FRM_fr (FRM_fr (FRM_put FRM_nil egimages_9 (by omega)) hi_20_3 (by decide)) hi_29_3 (by decide))⟩)⟩ (Nat.le_of_ble_eq_true rfl) (Nat.le_of_ble_eq_true rfl) dX12_keepsLaw_143
            · skip
              have hc_33 := nleE (a := 800) (b := x_27.toInt) (by decide +kernel) rfl c_33
              refine lv_aload_n (pc := 105) E.1 E.2.1 dX12_keepsLaw_105 rfl (lv_at hl32 1 rfl) ?_
              refine x_get (pc := 106) (T := TX12) (N := 70) (ci := 12) (v := .ref (mr 31)) E hw31 inX12 0 31 q_1430 rfl rfl (by decide) rfl rfl dX12_keepsLaw_106 ?_
              refine lv_iload_n (pc := 109) E.1 E.2.1 dX12_keepsLaw_109 rfl (lv_at hl32 0 rfl) ?_
              refine lv_aload_n (pc := 110) E.1 E.2.1 dX12_keepsLaw_110 rfl (lv_at hl32 1 rfl) ?_
              refine lv_aload_n (pc := 111) E.1 E.2.1 dX12_keepsLaw_111 rfl (lv_at hl32 1 rfl) ?_
              refine x_get (pc := 112) (T := TX12) (N := 70) (ci := 12) (v := .ref (mr 31)) E hw31 inX12 0 31 q_1430 rfl rfl (by decide) rfl rfl dX12_keepsLaw_112 ?_
              refine lv_iload_n (pc := 115) E.1 E.2.1 dX12_keepsLaw_115 rfl (lv_at hl32 0 rfl) ?_
              refine x_iald (pc := 116) (f := (mf 31)) E hw31 18 rfl (inbE (a := x_27.toInt) rfl (by omega)) dX12_keepsLaw_116 ?_
              refine lv_topi (fun v_34 ev_34 => ?_)
              refine cm_i (pc := 117) hw31 (rn_M (As := [.int v_34]) (rest := [.int x_27, .ref (mr 31)]) E hw31 (s_kept1 l D cI cJ _ M mr (upd mi 68 x_28) (va_up mf 69 g_29) mg v_34 h0 (by show 0 ≤ x_28.toInt ∧ x_28.toInt ≤ 3599; omega)) (gdV q_2125 q_2127 q_146 q_162 q_2128) hdV_X12_kept ⟨rfl, rfl⟩ ⟨(Nat.le_of_ble_eq_true rfl), (Nat.le_of_ble_eq_true rfl)⟩ ⟨(Nat.le_of_ble_eq_true rfl), (Nat.le_of_ble_eq_true rfl)⟩ 12 rfl rfl rfl rfl hl32.1 rfl (Nat.le_of_ble_eq_true rfl) dX12_keepsLaw_117) (fun r_36 u_35 H1 locs hp hw37 => ?_)
              obtain ⟨nkeptAt_38, gimages_39⟩ := u_35
              generalize H1 = H at hw37 ⊢
              have hw40 : WD D A s.heap (MW cI cJ M mr (upd mi 68 nkeptAt_38) (va_up mf 69 gimages_39) mg) H locs := hw37
              obtain ⟨hp_41, hp_42⟩ := hp
              have hp_41 : nkeptAt_38.toInt = x_28.toInt + 1 := hp_41
              have hp_42 : (gimages_39 = upd g_29 (x_28).toNatClampNeg v_34 ∧ r_36 = v_34) := hp_42
              obtain ⟨egimages_39, rfl⟩ := hp_42
              refine x_iastG (pc := 120) (f := (mf 31)) (wf := fun g => (MW cI cJ M mr (upd mi 68 nkeptAt_38) (va_up (va_up mf 31 g) 69 gimages_39) mg)) E hw40 18 rfl (inbE (a := x_27.toInt) rfl (by omega)) (fun _ => rfl) dX12_keepsLaw_120 (fun g_43 H locs eg_43 hw44 => ?_)
              obtain rfl : g_43 = (mf 31) := by rw [eg_43]; exact upd_same ev_34
              have hw45 : WD D A s.heap (MW cI cJ M mr (upd mi 68 nkeptAt_38) (va_up mf 69 gimages_39) mg) H locs := hw44
              refine lv_aload_n (pc := 121) E.1 E.2.1 dX12_keepsLaw_121 rfl (lv_at hl32 1 rfl) ?_
              refine x_get (pc := 122) (T := TX12) (N := 70) (ci := 12) (v := .ref (mr 32)) E hw45 inX12 0 32 q_1431 rfl rfl (by decide) rfl rfl dX12_keepsLaw_122 ?_
              refine lv_iload_n (pc := 125) E.1 E.2.1 dX12_keepsLaw_125 rfl (lv_at hl32 0 rfl) ?_
              refine lv_aload_n (pc := 126) E.1 E.2.1 dX12_keepsLaw_126 rfl (lv_at hl32 1 rfl) ?_
              refine lv_aload_n (pc := 127) E.1 E.2.1 dX12_keepsLaw_127 rfl (lv_at hl32 1 rfl) ?_
              refine x_get (pc := 128) (T := TX12) (N := 70) (ci := 12) (v := .ref (mr 32)) E hw45 inX12 0 32 q_1431 rfl rfl (by decide) rfl rfl dX12_keepsLaw_128 ?_
              refine lv_iload_n (pc := 131) E.1 E.2.1 dX12_keepsLaw_131 rfl (lv_at hl32 0 rfl) ?_
              refine x_iald (pc := 132) (f := (mf 32)) E hw45 19 rfl (inbE (a := x_27.toInt) rfl (by omega)) dX12_keepsLaw_132 ?_
              refine lv_topi (fun v_46 ev_46 => ?_)
              refine cm_i (pc := 133) hw45 (rn_M (As := [.int v_46]) (rest := [.int x_27, .ref (mr 32)]) E hw45 (s_kept1 l D cI cJ _ M mr (upd mi 68 nkeptAt_38) (va_up mf 69 gimages_39) mg v_46 h0 (by show 0 ≤ nkeptAt_38.toInt ∧ nkeptAt_38.toInt ≤ 3599; omega)) (gdV q_2125 q_2127 q_146 q_162 q_2128) hdV_X12_kept ⟨rfl, rfl⟩ ⟨(Nat.le_of_ble_eq_true rfl), (Nat.le_of_ble_eq_true rfl)⟩ ⟨(Nat.le_of_ble_eq_true rfl), (Nat.le_of_ble_eq_true rfl)⟩ 12 rfl rfl rfl rfl hl32.1 rfl (Nat.le_of_ble_eq_true rfl) dX12_keepsLaw_133) (fun r_48 u_47 H1 locs hp hw49 => ?_)
              obtain ⟨nkeptAt_50, gimages_51⟩ := u_47
              generalize H1 = H at hw49 ⊢
              have hw52 : WD D A s.heap (MW cI cJ M mr (upd mi 68 nkeptAt_50) (va_up mf 69 gimages_51) mg) H locs := hw49
              obtain ⟨hp_53, hp_54⟩ := hp
              have hp_53 : nkeptAt_50.toInt = nkeptAt_38.toInt + 1 := hp_53
              have hp_54 : (gimages_51 = upd gimages_39 (nkeptAt_38).toNatClampNeg v_46 ∧ r_48 = v_46) := hp_54
              obtain ⟨egimages_51, rfl⟩ := hp_54
              refine x_iastG (pc := 136) (f := (mf 32)) (wf := fun g => (MW cI cJ M mr (upd mi 68 nkeptAt_50) (va_up (va_up mf 32 g) 69 gimages_51) mg)) E hw52 19 rfl (inbE (a := x_27.toInt) rfl (by omega)) (fun _ => rfl) dX12_keepsLaw_136 (fun g_55 H locs eg_55 hw56 => ?_)
              obtain rfl : g_55 = (mf 32) := by rw [eg_55]; exact upd_same ev_46
              have hw57 : WD D A s.heap (MW cI cJ M mr (upd mi 68 nkeptAt_50) (va_up mf 69 gimages_51) mg) H locs := hw56
              obtain ⟨v_58, ev_58⟩ : ∃ z : Int32, x_27 + Int32.ofInt (1) = z := ⟨_, rfl⟩
              have hv_58 : v_58.toInt = x_27.toInt + (1) := by rw [← ev_58]; exact incE rfl (by decide) (by omega)
              refine lv_iinc (pc := 137) (v := v_58) (lv' := [(2, .int v_58), (0, .ref M), (1, .int 1)]) E.1 E.2.1 dX12_keepsLaw_137 hl32 (k := 0) rfl ev_58 (by decide) rfl (fun ls hl59 => ?_)
              refine lv_goto (pc := 140) (tgt := 92) E.1 E.2.1 dX12_keepsLaw_140 (by decide) ?_
              exact ih_30 v_58 nkeptAt_50 gimages_51 _ _ _ ⟨(by show 400 ≤ v_58.toInt; omega), (by show v_58.toInt ≤ 800; omega), (by show nkeptAt_50.toInt = 1549 + 2 * v_58.toInt; omega), (FRM_put (FRM_put hi_29_3 egimages_39 (by omega)) egimages_51 (by omega)), (SGT_keep (SGT_put hi_29_4 egimages_39 (by omega) (by omega) ev_34 (by omega) (by decide) (m := (v_58.toInt - 400)) (by omega)) egimages_51 (by omega) (fun j hj => by omega)), (SGT_put (SGT_keep hi_29_5 egimages_39 (by omega) (fun j hj => by omega)) egimages_51 (by omega) (by omega) ev_46 (by omega) (by decide) (m := (v_58.toInt - 400)) (by omega))⟩ (by omega) hw57 (lv_sub hl59 [0, 1, 2] rfl)
        exact loop_26 (Int.toNat (800 - 400) + 1) 400 x_19 g_20 _ _ _ ⟨(by show 400 ≤ (400 : Int32).toInt; have k_0 : (400 : Int32).toInt = 400 := (by decide +kernel); omega), (by show (400 : Int32).toInt ≤ 800; have k_0 : (400 : Int32).toInt = 400 := (by decide +kernel); omega), (by show x_19.toInt = 1549 + 2 * (400 : Int32).toInt; have k_0 : (400 : Int32).toInt = 400 := (by decide +kernel); omega), FRM_nil, (SGT_nil (by decide +kernel)), (SGT_nil (by decide +kernel))⟩ (by have k_0 : (400 : Int32).toInt = 400 := (by decide +kernel); omega) hw22 (lv_sub hl25 [0, 1, 2] rfl)
      · skip
        have hc_24 := nleE (a := 32) (b := x_18.toInt) (by decide +kernel) rfl c_24
        refine lv_aload_n (pc := 32) E.1 E.2.1 dX12_keepsLaw_32 rfl (lv_at hl23 1 rfl) ?_
        refine x_get (pc := 33) (T := TX12) (N := 70) (ci := 12) (v := .ref (mr 28)) E hw22 inX12 0 28 q_1427 rfl rfl (by decide) rfl rfl dX12_keepsLaw_33 ?_
        refine lv_iload_n (pc := 36) E.1 E.2.1 dX12_keepsLaw_36 rfl (lv_at hl23 0 rfl) ?_
        refine lv_aload_n (pc := 37) E.1 E.2.1 dX12_keepsLaw_37 rfl (lv_at hl23 1 rfl) ?_
        refine lv_aload_n (pc := 38) E.1 E.2.1 dX12_keepsLaw_38 rfl (lv_at hl23 1 rfl) ?_
        refine x_get (pc := 39) (T := TX12) (N := 70) (ci := 12) (v := .ref (mr 28)) E hw22 inX12 0 28 q_1427 rfl rfl (by decide) rfl rfl dX12_keepsLaw_39 ?_
        refine lv_iload_n (pc := 42) E.1 E.2.1 dX12_keepsLaw_42 rfl (lv_at hl23 0 rfl) ?_
        refine x_iald (pc := 43) (f := (mf 28)) E hw22 15 rfl (inbE (a := x_18.toInt) rfl (by omega)) dX12_keepsLaw_43 ?_
        refine lv_topi (fun v_60 ev_60 => ?_)
        refine cm_i (pc := 44) hw22 (rn_M (As := [.int v_60]) (rest := [.int x_18, .ref (mr 28)]) E hw22 (s_kept1 l D cI cJ _ M mr (upd mi 68 x_19) (va_up mf 69 g_20) mg v_60 h0 (by show 0 ≤ x_19.toInt ∧ x_19.toInt ≤ 3599; omega)) (gdV q_2125 q_2127 q_146 q_162 q_2128) hdV_X12_kept ⟨rfl, rfl⟩ ⟨(Nat.le_of_ble_eq_true rfl), (Nat.le_of_ble_eq_true rfl)⟩ ⟨(Nat.le_of_ble_eq_true rfl), (Nat.le_of_ble_eq_true rfl)⟩ 12 rfl rfl rfl rfl hl23.1 rfl (Nat.le_of_ble_eq_true rfl) dX12_keepsLaw_44) (fun r_62 u_61 H1 locs hp hw63 => ?_)
        obtain ⟨nkeptAt_64, gimages_65⟩ := u_61
        generalize H1 = H at hw63 ⊢
        have hw66 : WD D A s.heap (MW cI cJ M mr (upd mi 68 nkeptAt_64) (va_up mf 69 gimages_65) mg) H locs := hw63
        obtain ⟨hp_67, hp_68⟩ := hp
        have hp_67 : nkeptAt_64.toInt = x_19.toInt + 1 := hp_67
        have hp_68 : (gimages_65 = upd g_20 (x_19).toNatClampNeg v_60 ∧ r_62 = v_60) := hp_68
        obtain ⟨egimages_65, rfl⟩ := hp_68
        refine x_iastG (pc := 47) (f := (mf 28)) (wf := fun g => (MW cI cJ M mr (upd mi 68 nkeptAt_64) (va_up (va_up mf 28 g) 69 gimages_65) mg)) E hw66 15 rfl (inbE (a := x_18.toInt) rfl (by omega)) (fun _ => rfl) dX12_keepsLaw_47 (fun g_69 H locs eg_69 hw70 => ?_)
        obtain rfl : g_69 = (mf 28) := by rw [eg_69]; exact upd_same ev_60
        have hw71 : WD D A s.heap (MW cI cJ M mr (upd mi 68 nkeptAt_64) (va_up mf 69 gimages_65) mg) H locs := hw70
        refine lv_aload_n (pc := 48) E.1 E.2.1 dX12_keepsLaw_48 rfl (lv_at hl23 1 rfl) ?_
        refine x_get (pc := 49) (T := TX12) (N := 70) (ci := 12) (v := .ref (mr 29)) E hw71 inX12 0 29 q_1428 rfl rfl (by decide) rfl rfl dX12_keepsLaw_49 ?_
        refine lv_iload_n (pc := 52) E.1 E.2.1 dX12_keepsLaw_52 rfl (lv_at hl23 0 rfl) ?_
        refine lv_aload_n (pc := 53) E.1 E.2.1 dX12_keepsLaw_53 rfl (lv_at hl23 1 rfl) ?_
        refine lv_aload_n (pc := 54) E.1 E.2.1 dX12_keepsLaw_54 rfl (lv_at hl23 1 rfl) ?_
        refine x_get (pc := 55) (T := TX12) (N := 70) (ci := 12) (v := .ref (mr 29)) E hw71 inX12 0 29 q_1428 rfl rfl (by decide) rfl rfl dX12_keepsLaw_55 ?_
        refine lv_iload_n (pc := 58) E.1 E.2.1 dX12_keepsLaw_58 rfl (lv_at hl23 0 rfl) ?_
        refine x_iald (pc := 59) (f := (mf 29)) E hw71 16 rfl (inbE (a := x_18.toInt) rfl (by omega)) dX12_keepsLaw_59 ?_
        refine lv_topi (fun v_72 ev_72 => ?_)
        refine cm_i (pc := 60) hw71 (rn_M (As := [.int v_72]) (rest := [.int x_18, .ref (mr 29)]) E hw71 (s_kept1 l D cI cJ _ M mr (upd mi 68 nkeptAt_64) (va_up mf 69 gimages_65) mg v_72 h0 (by show 0 ≤ nkeptAt_64.toInt ∧ nkeptAt_64.toInt ≤ 3599; omega)) (gdV q_2125 q_2127 q_146 q_162 q_2128) hdV_X12_kept ⟨rfl, rfl⟩ ⟨(Nat.le_of_ble_eq_true rfl), (Nat.le_of_ble_eq_true rfl)⟩ ⟨(Nat.le_of_ble_eq_true rfl), (Nat.le_of_ble_eq_true rfl)⟩ 12 rfl rfl rfl rfl hl23.1 rfl (Nat.le_of_ble_eq_true rfl) dX12_keepsLaw_60) (fun r_74 u_73 H1 locs hp hw75 => ?_)
        obtain ⟨nkeptAt_76, gimages_77⟩ := u_73
        generalize H1 = H at hw75 ⊢
        have hw78 : WD D A s.heap (MW cI cJ M mr (upd mi 68 nkeptAt_76) (va_up mf 69 gimages_77) mg) H locs := hw75
        obtain ⟨hp_79, hp_80⟩ := hp
        have hp_79 : nkeptAt_76.toInt = nkeptAt_64.toInt + 1 := hp_79
        have hp_80 : (gimages_77 = upd gimages_65 (nkeptAt_64).toNatClampNeg v_72 ∧ r_74 = v_72) := hp_80
        obtain ⟨egimages_77, rfl⟩ := hp_80
        refine x_iastG (pc := 63) (f := (mf 29)) (wf := fun g => (MW cI cJ M mr (upd mi 68 nkeptAt_76) (va_up (va_up mf 29 g) 69 gimages_77) mg)) E hw78 16 rfl (inbE (a := x_18.toInt) rfl (by omega)) (fun _ => rfl) dX12_keepsLaw_63 (fun g_81 H locs eg_81 hw82 => ?_)
        obtain rfl : g_81 = (mf 29) := by rw [eg_81]; exact upd_same ev_72
        have hw83 : WD D A s.heap (MW cI cJ M mr (upd mi 68 nkeptAt_76) (va_up mf 69 gimages_77) mg) H locs := hw82
        refine lv_aload_n (pc := 64) E.1 E.2.1 dX12_keepsLaw_64 rfl (lv_at hl23 1 rfl) ?_
        refine x_get (pc := 65) (T := TX12) (N := 70) (ci := 12) (v := .ref (mr 30)) E hw83 inX12 0 30 q_1429 rfl rfl (by decide) rfl rfl dX12_keepsLaw_65 ?_
        refine lv_iload_n (pc := 68) E.1 E.2.1 dX12_keepsLaw_68 rfl (lv_at hl23 0 rfl) ?_
        refine lv_aload_n (pc := 69) E.1 E.2.1 dX12_keepsLaw_69 rfl (lv_at hl23 1 rfl) ?_
        refine lv_aload_n (pc := 70) E.1 E.2.1 dX12_keepsLaw_70 rfl (lv_at hl23 1 rfl) ?_
        refine x_get (pc := 71) (T := TX12) (N := 70) (ci := 12) (v := .ref (mr 30)) E hw83 inX12 0 30 q_1429 rfl rfl (by decide) rfl rfl dX12_keepsLaw_71 ?_
        refine lv_iload_n (pc := 74) E.1 E.2.1 dX12_keepsLaw_74 rfl (lv_at hl23 0 rfl) ?_
        refine x_iald (pc := 75) (f := (mf 30)) E hw83 17 rfl (inbE (a := x_18.toInt) rfl (by omega)) dX12_keepsLaw_75 ?_
        refine lv_topi (fun v_84 ev_84 => ?_)
        refine cm_i (pc := 76) hw83 (rn_M (As := [.int v_84]) (rest := [.int x_18, .ref (mr 30)]) E hw83 (s_kept1 l D cI cJ _ M mr (upd mi 68 nkeptAt_76) (va_up mf 69 gimages_77) mg v_84 h0 (by show 0 ≤ nkeptAt_76.toInt ∧ nkeptAt_76.toInt ≤ 3599; omega)) (gdV q_2125 q_2127 q_146 q_162 q_2128) hdV_X12_kept ⟨rfl, rfl⟩ ⟨(Nat.le_of_ble_eq_true rfl), (Nat.le_of_ble_eq_true rfl)⟩ ⟨(Nat.le_of_ble_eq_true rfl), (Nat.le_of_ble_eq_true rfl)⟩ 12 rfl rfl rfl rfl hl23.1 rfl (Nat.le_of_ble_eq_true rfl) dX12_keepsLaw_76) (fun r_86 u_85 H1 locs hp hw87 => ?_)
        obtain ⟨nkeptAt_88, gimages_89⟩ := u_85
        generalize H1 = H at hw87 ⊢
        have hw90 : WD D A s.heap (MW cI cJ M mr (upd mi 68 nkeptAt_88) (va_up mf 69 gimages_89) mg) H locs := hw87
        obtain ⟨hp_91, hp_92⟩ := hp
        have hp_91 : nkeptAt_88.toInt = nkeptAt_76.toInt + 1 := hp_91
        have hp_92 : (gimages_89 = upd gimages_77 (nkeptAt_76).toNatClampNeg v_84 ∧ r_86 = v_84) := hp_92
        obtain ⟨egimages_89, rfl⟩ := hp_92
        refine x_iastG (pc := 79) (f := (mf 30)) (wf := fun g => (MW cI cJ M mr (upd mi 68 nkeptAt_88) (va_up (va_up mf 30 g) 69 gimages_89) mg)) E hw90 17 rfl (inbE (a := x_18.toInt) rfl (by omega)) (fun _ => rfl) dX12_keepsLaw_79 (fun g_93 H locs eg_93 hw94 => ?_)
        obtain rfl : g_93 = (mf 30) := by rw [eg_93]; exact upd_same ev_84
        have hw95 : WD D A s.heap (MW cI cJ M mr (upd mi 68 nkeptAt_88) (va_up mf 69 gimages_89) mg) H locs := hw94
        obtain ⟨v_96, ev_96⟩ : ∃ z : Int32, x_18 + Int32.ofInt (1) = z := ⟨_, rfl⟩
        have hv_96 : v_96.toInt = x_18.toInt + (1) := by rw [← ev_96]; exact incE rfl (by decide) (by omega)
        refine lv_iinc (pc := 80) (v := v_96) (lv' := [(2, .int v_96), (0, .ref M), (1, .int 1)]) E.1 E.2.1 dX12_keepsLaw_80 hl23 (k := 0) rfl ev_96 (by decide) rfl (fun ls hl97 => ?_)
        refine lv_goto (pc := 83) (tgt := 21) E.1 E.2.1 dX12_keepsLaw_83 (by decide) ?_
        exact ih_21 v_96 nkeptAt_88 gimages_89 _ _ _ ⟨(by show 16 ≤ v_96.toInt; omega), (by show v_96.toInt ≤ 32; omega), (by show nkeptAt_88.toInt = 2253 + 3 * v_96.toInt; omega), (FRM_put (FRM_put (FRM_put hi_20_3 egimages_65 (by omega)) egimages_77 (by omega)) egimages_89 (by omega)), (SGT_keep (SGT_keep (SGT_put hi_20_4 egimages_65 (by omega) (by omega) ev_60 (by omega) (by decide) (m := (v_96.toInt - 16)) (by omega)) egimages_77 (by omega) (fun j hj => by omega)) egimages_89 (by omega) (fun j hj => by omega)), (SGT_keep (SGT_put (SGT_keep hi_20_5 egimages_65 (by omega) (fun j hj => by omega)) egimages_77 (by omega) (by omega) ev_72 (by omega) (by decide) (m := (v_96.toInt - 16)) (by omega)) egimages_89 (by omega) (fun j hj => by omega)), (SGT_put (SGT_keep (SGT_keep hi_20_6 egimages_65 (by omega) (fun j hj => by omega)) egimages_77 (by omega) (fun j hj => by omega)) egimages_89 (by omega) (by omega) ev_84 (by omega) (by decide) (m := (v_96.toInt - 16)) (by omega))⟩ (by omega) hw95 (lv_sub hl97 [0, 1, 2] rfl)
  exact loop_17 (Int.toNat (32 - 16) + 1) 16 nkeptAt_8 gimages_9 _ _ _ ⟨(by show 16 ≤ (16 : Int32).toInt; have k_0 : (16 : Int32).toInt = 16 := (by decide +kernel); omega), (by show (16 : Int32).toInt ≤ 32; have k_0 : (16 : Int32).toInt = 16 := (by decide +kernel); omega), (by show nkeptAt_8.toInt = 2253 + 3 * (16 : Int32).toInt; have k_0 : (16 : Int32).toInt = 16 := (by decide +kernel); omega), FRM_nil, (SGT_nil (by decide +kernel)), (SGT_nil (by decide +kernel)), (SGT_nil (by decide +kernel))⟩ (by have k_0 : (16 : Int32).toInt = 16 := (by decide +kernel); omega) hw15 (lv_sub hl16 [0, 1, 2] rfl)

