set_option maxHeartbeats 4000000 in
set_option maxRecDepth 100000 in
theorem s_image1U (l : Launch) (D : va_G) (cI cJ : ClassId) (sz M : Nat) (mr : Nat → Nat) (mi : Nat → Int32) (mf : Nat → Nat → Int32) (mg : Nat → Nat → Int64)  (h0 : 0 ≤ (mi 6).toInt ∧ (mi 6).toInt ≤ 10) (h1 : 0 ≤ ((mf 1) 2).toInt ∧ ((mf 1) 2).toInt ≤ 150) (h2 : 0 ≤ ((mf 1) 3).toInt ∧ ((mf 1) 3).toInt ≤ 9) (h3 : 0 ≤ ((mf 1) 5).toInt ∧ ((mf 1) 5).toInt ≤ 200) (h4 : 0 ≤ (mi 44).toInt ∧ (mi 44).toInt ≤ 10) (h5 : 0 ≤ (mi 42).toInt ∧ (mi 42).toInt ≤ 40) (h6 : 0 ≤ ((mf 27) 0).toInt) (h7 : ((mf 27) 0).toInt ≤ 16) (h8 : 0 ≤ ((mf 27) 1).toInt) (h9 : ((mf 27) 1).toInt ≤ 16) (h10 : 0 ≤ (mi 49).toInt ∧ (mi 49).toInt ≤ 200) (h11 : (-29) ≤ (mi 15).toInt ∧ (mi 15).toInt ≤ 69) (h12 : 0 ≤ (mi 17).toInt ∧ (mi 17).toInt ≤ 8) (h13 : 0 ≤ (mi 3).toInt ∧ (mi 3).toInt ≤ 6) (a_paths : pathsOK (mf 43)) (lf_people : pplOK (mi 6).toInt (mf 8)) (lf_round : rndOK (mi 49).toInt (mi 6).toInt (mf 50)) (lf_law0 : LW 0 0 (mf 31) (mf 32) (mf 28) (mf 29) (mf 30) ((mf 27) 0).toInt 400) (lf_law1 : LW 16 400 (mf 31) (mf 32) (mf 28) (mf 29) (mf 30) ((mf 27) 1).toInt 400) (lf_lamp : (((mi 6).toInt = 0 ∧ ((mf 1) 3).toInt = 0) ∨ ((mf 1) 3).toInt < (mi 6).toInt)) : Met l yX12_image (Cond.code yX12_image cX12_image 3 (some .boolean) :: GW) ({ frames := 3, cells := 0, slots := 0, locals := 83 } : Room) (va_Pc [.ref M, .int 1] (PW D cI cJ sz (MW cI cJ M mr mi mf mg) xT)) (va_Qi (fun (r : Int32) (u : Int32 × Int32 × Int32 × Int32 × (Nat → Int32)) => (r.toInt = 1) ∧ (u.2.2.1.toInt = 1) ∧ (IMGO u.2.2.1.toInt u.2.2.2.2) ∧ (((u.2.2.2.2 66).toInt = (mi 6).toInt ∧ SGT u.2.2.2.2 (mf 7) 0 67 5 10 ∧ (u.2.2.2.2 121).toInt = (mi 17).toInt)) ∧ ((u.2.2.2.2 0).toInt = ((mf 1) 0).toInt) ∧ ((u.2.2.2.2 1 = (mf 1) 1 ∧ (u.2.2.2.2 117).toInt = (mi 12).toInt))) (fun u => QW D cI cJ (va_A (MW cI cJ M mr mi mf mg) sz) ((fun (u : Int32 × Int32 × Int32 × Int32 × (Nat → Int32)) => (MW cI cJ M mr (upd (upd (upd (upd mi 0 u.1) 66 u.2.1) 67 u.2.2.1) 68 u.2.2.2.1) (va_up mf 69 u.2.2.2.2) mg)) u)) (va_A (MW cI cJ M mr mi mf mg) sz)) 0 0 (va_A (MW cI cJ M mr mi mf mg) sz) := by
  refine mk_met (y := yX12_image) (bytes := cX12_image) (maxL := 3) (avs := [.ref M, .int 1]) (WS := (MW cI cJ M mr mi mf mg)) (Qf := fun A => va_Qi (fun (r : Int32) (u : Int32 × Int32 × Int32 × Int32 × (Nat → Int32)) => (r.toInt = 1) ∧ (u.2.2.1.toInt = 1) ∧ (IMGO u.2.2.1.toInt u.2.2.2.2) ∧ (((u.2.2.2.2 66).toInt = (mi 6).toInt ∧ SGT u.2.2.2.2 (mf 7) 0 67 5 10 ∧ (u.2.2.2.2 121).toInt = (mi 17).toInt)) ∧ ((u.2.2.2.2 0).toInt = ((mf 1) 0).toInt) ∧ ((u.2.2.2.2 1 = (mf 1) 1 ∧ (u.2.2.2.2 117).toInt = (mi 12).toInt))) (fun u => QW D cI cJ A ((fun (u : Int32 × Int32 × Int32 × Int32 × (Nat → Int32)) => (MW cI cJ M mr (upd (upd (upd (upd mi 0 u.1) 66 u.2.1) 67 u.2.2.1) 68 u.2.2.2.1) (va_up mf 69 u.2.2.2.2) mg)) u)) A) (by decide) (Nat.le_of_ble_eq_true rfl) ?_
  intro p e s m below meth c A ls E hr hlk hnm hX hw1 hl2
  have hl3 : lv_has ls 3 [(0, .ref M), (1, .int 1)] := hl2
  refine lv_aload_n (pc := 0) E.1 E.2.1 dX12_image_0 rfl (lv_at hl3 0 rfl) ?_
  refine lv_iconst (pc := 1) (v := 0) E.1 E.2.1 dX12_image_1 (by decide +kernel) ?_
  refine x_put (pc := 2) (T := TX12) (N := 70) (ci := 12) (ws' := (MW cI cJ M mr (upd mi 0 0) mf mg)) E hw1 inX12 tyX12_ok nmX12 0 0 q_1399 rfl rfl (by decide) rfl rfl rfl rfl (Nat.le_of_ble_eq_true rfl) rfl dX12_image_2 (fun H locs hw4 => ?_)
  refine lv_iload_n (pc := 5) E.1 E.2.1 dX12_image_5 rfl (lv_at hl3 1 rfl) ?_
  refine lv_if_ne (pc := 6) (tgt := 18) E.1 E.2.1 dX12_image_6 (by decide) (fun _ => ?_) (fun c_5 => absurd c_5 (mneE (a := 1) (b := 0) (by decide +kernel) (by decide +kernel) (by omega)))
  refine lv_aload_n (pc := 18) E.1 E.2.1 dX12_image_18 rfl (lv_at hl3 0 rfl) ?_
  refine lv_iload_n (pc := 19) E.1 E.2.1 dX12_image_19 rfl (lv_at hl3 1 rfl) ?_
  refine x_put (pc := 20) (T := TX12) (N := 70) (ci := 12) (ws' := (MW cI cJ M mr (upd (upd mi 0 0) 66 1) mf mg)) E hw4 inX12 tyX12_ok nmX12 0 66 q_1465 rfl rfl (by decide) rfl rfl rfl rfl (Nat.le_of_ble_eq_true rfl) rfl dX12_image_20 (fun H locs hw6 => ?_)
  refine lv_aload_n (pc := 23) E.1 E.2.1 dX12_image_23 rfl (lv_at hl3 0 rfl) ?_
  refine lv_iconst (pc := 24) (v := 1) E.1 E.2.1 dX12_image_24 (by decide +kernel) ?_
  refine x_put (pc := 25) (T := TX12) (N := 70) (ci := 12) (ws' := (MW cI cJ M mr (upd (upd (upd mi 0 0) 66 1) 67 1) mf mg)) E hw6 inX12 tyX12_ok nmX12 0 67 q_1466 rfl rfl (by decide) rfl rfl rfl rfl (Nat.le_of_ble_eq_true rfl) rfl dX12_image_25 (fun H locs hw7 => ?_)
  refine lv_aload_n (pc := 28) E.1 E.2.1 dX12_image_28 rfl (lv_at hl3 0 rfl) ?_
  refine lv_iconst (pc := 29) (v := 0) E.1 E.2.1 dX12_image_29 (by decide +kernel) ?_
  refine x_put (pc := 30) (T := TX12) (N := 70) (ci := 12) (ws' := (MW cI cJ M mr (upd (upd (upd (upd mi 0 0) 66 1) 67 1) 68 0) mf mg)) E hw7 inX12 tyX12_ok nmX12 0 68 q_1467 rfl rfl (by decide) rfl rfl rfl rfl (Nat.le_of_ble_eq_true rfl) rfl dX12_image_30 (fun H locs hw8 => ?_)
  refine lv_iconst (pc := 33) (v := 0) E.1 E.2.1 dX12_image_33 (by decide +kernel) ?_
  refine lv_istore_n (pc := 34) (lv' := [(2, .int 0), (0, .ref M), (1, .int 1)]) E.1 E.2.1 dX12_image_34 rfl hl3 (by decide) rfl (fun ls hl9 => ?_)
  have loop_10 : ∀ (k : Nat) (x_11 : Int32) (x_12 : Int32) (g_13 : Nat → Int32) (H : Heap) (locs : List Loc) (ls : Array Slot), (0 ≤ x_11.toInt) ∧ (x_11.toInt ≤ 66) ∧ (x_12.toInt = x_11.toInt) ∧ (FRM (mf 69) g_13 0) ∧ (SGT g_13 (mf 1) 0 0 1 x_11.toInt) → 66 - x_11.toInt < (k : Int) → WD D A s.heap (MW cI cJ M mr (upd (upd (upd (upd mi 0 0) 66 1) 67 1) 68 x_12) (va_up mf 69 g_13) mg) H locs → lv_has ls 3 [(2, .int x_11), (0, .ref M), (1, .int 1)] → W p l e ({ frames := 3, cells := 0, slots := 0, locals := 83 } : Room) s m ([.ref M, .int 1] : List Value).toArray below meth c H locs 0 0 (MQ below (va_Qi (fun (r : Int32) (u : Int32 × Int32 × Int32 × Int32 × (Nat → Int32)) => (r.toInt = 1) ∧ (u.2.2.1.toInt = 1) ∧ (IMGO u.2.2.1.toInt u.2.2.2.2) ∧ (((u.2.2.2.2 66).toInt = (mi 6).toInt ∧ SGT u.2.2.2.2 (mf 7) 0 67 5 10 ∧ (u.2.2.2.2 121).toInt = (mi 17).toInt)) ∧ ((u.2.2.2.2 0).toInt = ((mf 1) 0).toInt) ∧ ((u.2.2.2.2 1 = (mf 1) 1 ∧ (u.2.2.2.2 117).toInt = (mi 12).toInt))) (fun u => QW D cI cJ A ((fun (u : Int32 × Int32 × Int32 × Int32 × (Nat → Int32)) => (MW cI cJ M mr (upd (upd (upd (upd mi 0 u.1) 66 u.2.1) 67 u.2.2.1) 68 u.2.2.2.1) (va_up mf 69 u.2.2.2.2) mg)) u)) A) ([.ref M, .int 1] : List Value).toArray s 0 0 A) (F0 m 35 ls []) := by
    intro k
    induction k with
    | zero =>
      intro x_11 x_12 g_13 _ _ _ hinv hm
      obtain ⟨hi_13_0, hi_13_1, hi_13_2, hi_13_3, hi_13_4⟩ := hinv
      exact absurd hm (by omega)
    | succ k ih_14 =>
      intro x_11 x_12 g_13 H locs ls hinv hm hw15 hl16
      obtain ⟨hi_13_0, hi_13_1, hi_13_2, hi_13_3, hi_13_4⟩ := hinv
      refine lv_iload_n (pc := 35) E.1 E.2.1 dX12_image_35 rfl (lv_at hl16 0 rfl) ?_
      refine lv_bipush (pc := 36) (v := 66) E.1 E.2.1 dX12_image_36 (by decide +kernel) ?_
      refine lv_icmp_ge (pc := 38) (tgt := 63) E.1 E.2.1 dX12_image_38 (by decide) (fun c_17 => ?_) (fun c_17 => ?_)
      · skip
        have hc_17 := leE (a := 66) (b := x_11.toInt) (by decide +kernel) rfl c_17
        refine lv_aload_n (pc := 63) E.1 E.2.1 dX12_image_63 rfl (lv_at hl16 1 rfl) ?_
        refine cm_v (pc := 64) hw15 (rn_M (As := []) (rest := []) E hw15 (s_keepsVillage1B l D cI cJ _ M mr (upd (upd (upd (upd mi 0 0) 66 1) 67 1) 68 x_12) (va_up mf 69 g_13) mg (by show (1 : Int32).toInt = 1; have k_1 : (1 : Int32).toInt = 1 := (by decide +kernel); omega) (by show x_12.toInt = 66; omega)) (gdV q_2129 q_2131 q_147 q_162 q_2132) hdV_X12_keepsVillage ⟨rfl, rfl⟩ ⟨(Nat.le_of_ble_eq_true rfl), (Nat.le_of_ble_eq_true rfl)⟩ ⟨(Nat.le_of_ble_eq_true rfl), (Nat.le_of_ble_eq_true rfl)⟩ 12 rfl rfl rfl rfl hl16.1 rfl (Nat.le_of_ble_eq_true rfl) dX12_image_64) (fun u_18 H1 locs hp hw20 => ?_)
        obtain ⟨nkeptAt_21, gimages_22⟩ := u_18
        generalize H1 = H at hw20 ⊢
        have hw23 : WD D A s.heap (MW cI cJ M mr (upd (upd (upd (upd mi 0 0) 66 1) 67 1) 68 nkeptAt_21) (va_up mf 69 gimages_22) mg) H locs := hw20
        obtain ⟨hp_24, hp_25, hp_26, hp_27⟩ := hp
        have hp_24 : nkeptAt_21.toInt = 138 := hp_24
        have hp_25 : ((gimages_22 66).toInt = (mi 6).toInt ∧ SGT gimages_22 (mf 8) 0 68 5 10 ∧ (gimages_22 120).toInt = (mi 15).toInt ∧ (gimages_22 121).toInt = (mi 17).toInt ∧ FRM g_13 gimages_22 66) := hp_25
        have hp_26 : SGT gimages_22 (mf 7) 0 67 5 10 := hp_26
        have hp_27 : (gimages_22 117).toInt = (mi 12).toInt := hp_27
        refine lv_aload_n (pc := 67) E.1 E.2.1 dX12_image_67 rfl (lv_at hl16 1 rfl) ?_
        refine cm_v (pc := 68) hw23 (rn_M (As := []) (rest := []) E hw23 (s_keepsTexts1 l D cI cJ _ M mr (upd (upd (upd (upd mi 0 0) 66 1) 67 1) 68 nkeptAt_21) (va_up mf 69 gimages_22) mg (by show (1 : Int32).toInt = 1; have k_1 : (1 : Int32).toInt = 1 := (by decide +kernel); omega) hp_24) (gdV q_2133 q_2135 q_148 q_162 q_2136) hdV_X12_keepsTexts ⟨rfl, rfl⟩ ⟨(Nat.le_of_ble_eq_true rfl), (Nat.le_of_ble_eq_true rfl)⟩ ⟨(Nat.le_of_ble_eq_true rfl), (Nat.le_of_ble_eq_true rfl)⟩ 12 rfl rfl rfl rfl hl16.1 rfl (Nat.le_of_ble_eq_true rfl) dX12_image_68) (fun u_28 H1 locs hp hw30 => ?_)
        obtain ⟨nkeptAt_31, gimages_32⟩ := u_28
        generalize H1 = H at hw30 ⊢
        have hw33 : WD D A s.heap (MW cI cJ M mr (upd (upd (upd (upd mi 0 0) 66 1) 67 1) 68 nkeptAt_31) (va_up mf 69 gimages_32) mg) H locs := hw30
        obtain ⟨hp_34, hp_35⟩ := hp
        have hp_34 : nkeptAt_31.toInt = 551 := hp_34
        have hp_35 : ((gimages_32 138).toInt = (mi 42).toInt ∧ SGT gimages_32 (mf 43) 0 139 1 160 ∧ (gimages_32 299).toInt = (mi 44).toInt ∧ (gimages_32 350).toInt = (mi 49).toInt ∧ SGT gimages_32 (mf 50) 0 351 1 200 ∧ FRM gimages_22 gimages_32 138) := hp_35
        refine lv_iconst (pc := 71) (v := 0) E.1 E.2.1 dX12_image_71 (by decide +kernel) ?_
        refine lv_istore_n (pc := 72) (lv' := [(2, .int 0), (0, .ref M), (1, .int 1)]) E.1 E.2.1 dX12_image_72 rfl hl16 (by decide) rfl (fun ls hl36 => ?_)
        have loop_37 : ∀ (k : Nat) (x_38 : Int32) (x_39 : Int32) (g_40 : Nat → Int32) (H : Heap) (locs : List Loc) (ls : Array Slot), (0 ≤ x_38.toInt) ∧ (x_38.toInt ≤ 900) ∧ (x_39.toInt = 551 + x_38.toInt) ∧ (FRM gimages_32 g_40 551) → 900 - x_38.toInt < (k : Int) → WD D A s.heap (MW cI cJ M mr (upd (upd (upd (upd mi 0 0) 66 1) 67 1) 68 x_39) (va_up mf 69 g_40) mg) H locs → lv_has ls 3 [(2, .int x_38), (0, .ref M), (1, .int 1)] → W p l e ({ frames := 3, cells := 0, slots := 0, locals := 83 } : Room) s m ([.ref M, .int 1] : List Value).toArray below meth c H locs 0 0 (MQ below (va_Qi (fun (r : Int32) (u : Int32 × Int32 × Int32 × Int32 × (Nat → Int32)) => (r.toInt = 1) ∧ (u.2.2.1.toInt = 1) ∧ (IMGO u.2.2.1.toInt u.2.2.2.2) ∧ (((u.2.2.2.2 66).toInt = (mi 6).toInt ∧ SGT u.2.2.2.2 (mf 7) 0 67 5 10 ∧ (u.2.2.2.2 121).toInt = (mi 17).toInt)) ∧ ((u.2.2.2.2 0).toInt = ((mf 1) 0).toInt) ∧ ((u.2.2.2.2 1 = (mf 1) 1 ∧ (u.2.2.2.2 117).toInt = (mi 12).toInt))) (fun u => QW D cI cJ A ((fun (u : Int32 × Int32 × Int32 × Int32 × (Nat → Int32)) => (MW cI cJ M mr (upd (upd (upd (upd mi 0 u.1) 66 u.2.1) 67 u.2.2.1) 68 u.2.2.2.1) (va_up mf 69 u.2.2.2.2) mg)) u)) A) ([.ref M, .int 1] : List Value).toArray s 0 0 A) (F0 m 73 ls []) := by
          intro k
          induction k with
          | zero =>
            intro x_38 x_39 g_40 _ _ _ hinv hm
            obtain ⟨hi_40_0, hi_40_1, hi_40_2, hi_40_3⟩ := hinv
            exact absurd hm (by omega)
          | succ k ih_41 =>
            intro x_38 x_39 g_40 H locs ls hinv hm hw42 hl43
            obtain ⟨hi_40_0, hi_40_1, hi_40_2, hi_40_3⟩ := hinv
            refine lv_iload_n (pc := 73) E.1 E.2.1 dX12_image_73 rfl (lv_at hl43 0 rfl) ?_
            refine lv_sipush (pc := 74) (v := 900) E.1 E.2.1 dX12_image_74 (by decide +kernel) ?_
            refine lv_icmp_ge (pc := 77) (tgt := 102) E.1 E.2.1 dX12_image_77 (by decide) (fun c_44 => ?_) (fun c_44 => ?_)
            · skip
              have hc_44 := leE (a := 900) (b := x_38.toInt) (by decide +kernel) rfl c_44
              refine lv_aload_n (pc := 102) E.1 E.2.1 dX12_image_102 rfl (lv_at hl43 1 rfl) ?_
              refine lv_iconst (pc := 103) (v := 0) E.1 E.2.1 dX12_image_103 (by decide +kernel) ?_
              refine cm_v (pc := 104) hw42 (rn_M (As := [.int 0]) (rest := []) E hw42 (s_keepsLaw0_1 l D cI cJ _ M mr (upd (upd (upd (upd mi 0 0) 66 1) 67 1) 68 x_39) (va_up mf 69 g_40) mg (by show (1 : Int32).toInt = 1; have k_1 : (1 : Int32).toInt = 1 := (by decide +kernel); omega) (by show x_39.toInt = 1451; omega)) (gdV q_2137 q_2139 q_149 q_162 q_2140) hdV_X12_keepsLaw ⟨rfl, rfl⟩ ⟨(Nat.le_of_ble_eq_true rfl), (Nat.le_of_ble_eq_true rfl)⟩ ⟨(Nat.le_of_ble_eq_true rfl), (Nat.le_of_ble_eq_true rfl)⟩ 12 rfl rfl rfl rfl hl43.1 rfl (Nat.le_of_ble_eq_true rfl) dX12_image_104) (fun u_45 H1 locs hp hw47 => ?_)
              obtain ⟨nkeptAt_48, gimages_49⟩ := u_45
              generalize H1 = H at hw47 ⊢
              have hw50 : WD D A s.heap (MW cI cJ M mr (upd (upd (upd (upd mi 0 0) 66 1) 67 1) 68 nkeptAt_48) (va_up mf 69 gimages_49) mg) H locs := hw47
              obtain ⟨hp_51, hp_52⟩ := hp
              have hp_51 : nkeptAt_48.toInt = 2300 := hp_51
              have hp_52 : LT1 1451 0 0 (mf 31) (mf 32) (mf 28) (mf 29) (mf 30) g_40 gimages_49 ((mf 27) 0).toInt := hp_52
              refine lv_aload_n (pc := 107) E.1 E.2.1 dX12_image_107 rfl (lv_at hl43 1 rfl) ?_
              refine lv_iconst (pc := 108) (v := 1) E.1 E.2.1 dX12_image_108 (by decide +kernel) ?_
              refine cm_v (pc := 109) hw50 (rn_M (As := [.int 1]) (rest := []) E hw50 (s_keepsLaw1_1 l D cI cJ _ M mr (upd (upd (upd (upd mi 0 0) 66 1) 67 1) 68 nkeptAt_48) (va_up mf 69 gimages_49) mg (by show (1 : Int32).toInt = 1; have k_0 : (1 : Int32).toInt = 1 := (by decide +kernel); omega) hp_51) (gdV q_2137 q_2139 q_149 q_162 q_2140) hdV_X12_keepsLaw ⟨rfl, rfl⟩ ⟨(Nat.le_of_ble_eq_true rfl), (Nat.le_of_ble_eq_true rfl)⟩ ⟨(Nat.le_of_ble_eq_true rfl), (Nat.le_of_ble_eq_true rfl)⟩ 12 rfl rfl rfl rfl hl43.1 rfl (Nat.le_of_ble_eq_true rfl) dX12_image_109) (fun u_53 H1 locs hp hw55 => ?_)
              obtain ⟨nkeptAt_56, gimages_57⟩ := u_53
              generalize H1 = H at hw55 ⊢
              have hw58 : WD D A s.heap (MW cI cJ M mr (upd (upd (upd (upd mi 0 0) 66 1) 67 1) 68 nkeptAt_56) (va_up mf 69 gimages_57) mg) H locs := hw55
              obtain ⟨hp_59, hp_60⟩ := hp
              have hp_59 : nkeptAt_56.toInt = 3149 := hp_59
              have hp_60 : LT1 2300 16 400 (mf 31) (mf 32) (mf 28) (mf 29) (mf 30) gimages_49 gimages_57 ((mf 27) 1).toInt := hp_60
              refine lv_iload_n (pc := 112) E.1 E.2.1 dX12_image_112 rfl (lv_at hl43 2 rfl) ?_
              refine lv_if_ne (pc := 113) (tgt := 121) E.1 E.2.1 dX12_image_113 (by decide) (fun _ => ?_) (fun c_61 => absurd c_61 (mneE (a := 1) (b := 0) (by decide +kernel) (by decide +kernel) (by omega)))
              have hn2 : (g_13 2).toInt = ((mf 1) 2).toInt := by have q := hi_13_4 2 (by omega); exact congrArg Int32.toInt q
              have hc2 := (congrArg Int32.toInt ((hp_60.2.2.2.2.2.2 2 (by omega)).trans ((hp_52.2.2.2.2.2.2 2 (by omega)).trans ((hi_40_3 2 (by omega)).trans ((hp_35.2.2.2.2.2 2 (by omega)).trans (hp_25.2.2.2.2 2 (by omega))))))).trans hn2
              have hn3 : (g_13 3).toInt = ((mf 1) 3).toInt := by have q := hi_13_4 3 (by omega); exact congrArg Int32.toInt q
              have hc3 := (congrArg Int32.toInt ((hp_60.2.2.2.2.2.2 3 (by omega)).trans ((hp_52.2.2.2.2.2.2 3 (by omega)).trans ((hi_40_3 3 (by omega)).trans ((hp_35.2.2.2.2.2 3 (by omega)).trans (hp_25.2.2.2.2 3 (by omega))))))).trans hn3
              have hn5 : (g_13 5).toInt = ((mf 1) 5).toInt := by have q := hi_13_4 5 (by omega); exact congrArg Int32.toInt q
              have hc5 := (congrArg Int32.toInt ((hp_60.2.2.2.2.2.2 5 (by omega)).trans ((hp_52.2.2.2.2.2.2 5 (by omega)).trans ((hi_40_3 5 (by omega)).trans ((hp_35.2.2.2.2.2 5 (by omega)).trans (hp_25.2.2.2.2 5 (by omega))))))).trans hn5
              have hc66 := (congrArg Int32.toInt ((hp_60.2.2.2.2.2.2 66 (by omega)).trans ((hp_52.2.2.2.2.2.2 66 (by omega)).trans ((hi_40_3 66 (by omega)).trans (hp_35.2.2.2.2.2 66 (by omega)))))).trans hp_25.1
              have hc120 := (congrArg Int32.toInt ((hp_60.2.2.2.2.2.2 120 (by omega)).trans ((hp_52.2.2.2.2.2.2 120 (by omega)).trans ((hi_40_3 120 (by omega)).trans (hp_35.2.2.2.2.2 120 (by omega)))))).trans hp_25.2.2.1
              have hc121 := (congrArg Int32.toInt ((hp_60.2.2.2.2.2.2 121 (by omega)).trans ((hp_52.2.2.2.2.2.2 121 (by omega)).trans ((hi_40_3 121 (by omega)).trans (hp_35.2.2.2.2.2 121 (by omega)))))).trans hp_25.2.2.2.1
              have hc138 := (congrArg Int32.toInt ((hp_60.2.2.2.2.2.2 138 (by omega)).trans ((hp_52.2.2.2.2.2.2 138 (by omega)).trans (hi_40_3 138 (by omega))))).trans hp_35.1
              have hc299 := (congrArg Int32.toInt ((hp_60.2.2.2.2.2.2 299 (by omega)).trans ((hp_52.2.2.2.2.2.2 299 (by omega)).trans (hi_40_3 299 (by omega))))).trans hp_35.2.2.1
              have hc350 := (congrArg Int32.toInt ((hp_60.2.2.2.2.2.2 350 (by omega)).trans ((hp_52.2.2.2.2.2.2 350 (by omega)).trans (hi_40_3 350 (by omega))))).trans hp_35.2.2.2.1
              have hc1451 := (congrArg Int32.toInt (hp_60.2.2.2.2.2.2 1451 (by omega))).trans hp_52.1
              have hc2300 := hp_60.1
              have hsp : SGT gimages_57 (mf 8) 0 68 5 10 := (SGT_fr (SGT_fr (SGT_fr (SGT_fr hp_25.2.1 hp_35.2.2.2.2.2 (fun j hj => by omega)) hi_40_3 (fun j hj => by omega)) hp_52.2.2.2.2.2.2 (fun j hj => by omega)) hp_60.2.2.2.2.2.2 (fun j hj => by omega))
              have hsq : SGT gimages_57 (mf 43) 0 139 1 160 := (SGT_fr (SGT_fr (SGT_fr hp_35.2.1 hi_40_3 (fun j hj => by omega)) hp_52.2.2.2.2.2.2 (fun j hj => by omega)) hp_60.2.2.2.2.2.2 (fun j hj => by omega))
              have hsr : SGT gimages_57 (mf 50) 0 351 1 200 := (SGT_fr (SGT_fr (SGT_fr hp_35.2.2.2.2.1 hi_40_3 (fun j hj => by omega)) hp_52.2.2.2.2.2.2 (fun j hj => by omega)) hp_60.2.2.2.2.2.2 (fun j hj => by omega))
              have hlm := lf_lamp
              have hIMG : IMG gimages_57 := ⟨⟨by omega, by omega, by omega, by omega, by omega, by omega, by omega, by omega, by omega, by omega, by omega, by omega⟩, (by rw [hc66]; exact pplOK_tr lf_people (fun j hj => SGT_z hsp (by omega))), pathsOK_tr a_paths (fun j hj => SGT_z hsq (by omega)), (by rw [hc350, hc66]; exact rndOK_tr lf_round (fun j hj => SGT_z hsr (by omega))), LW_img (S := 1451) lf_law0 (by omega) (SGT_fr hp_52.2.1 hp_60.2.2.2.2.2.2 (fun j hj => by omega)) (SGT_fr hp_52.2.2.1 hp_60.2.2.2.2.2.2 (fun j hj => by omega)) (SGT_fr hp_52.2.2.2.1 hp_60.2.2.2.2.2.2 (fun j hj => by omega)) (SGT_fr hp_52.2.2.2.2.1 hp_60.2.2.2.2.2.2 (fun j hj => by omega)) (SGT_fr hp_52.2.2.2.2.2.1 hp_60.2.2.2.2.2.2 (fun j hj => by omega)) hc1451, LW_img (S := 2300) lf_law1 (by omega) hp_60.2.1 hp_60.2.2.1 hp_60.2.2.2.1 hp_60.2.2.2.2.1 hp_60.2.2.2.2.2.1 hc2300⟩
              have hpl : SGT gimages_57 (mf 7) 0 67 5 10 := (SGT_fr (SGT_fr (SGT_fr (SGT_fr hp_26 hp_35.2.2.2.2.2 (fun j hj => by omega)) hi_40_3 (fun j hj => by omega)) hp_52.2.2.2.2.2.2 (fun j hj => by omega)) hp_60.2.2.2.2.2.2 (fun j hj => by omega))
              have hn0 : (g_13 0).toInt = ((mf 1) 0).toInt := by have q := hi_13_4 0 (by omega); exact congrArg Int32.toInt q
              have hc0 := (congrArg Int32.toInt ((hp_60.2.2.2.2.2.2 0 (by omega)).trans ((hp_52.2.2.2.2.2.2 0 (by omega)).trans ((hi_40_3 0 (by omega)).trans ((hp_35.2.2.2.2.2 0 (by omega)).trans (hp_25.2.2.2.2 0 (by omega))))))).trans hn0
              have hn1 : g_13 1 = (mf 1) 1 := by have q := hi_13_4 1 (by omega); exact q
              have hd1 := ((hp_60.2.2.2.2.2.2 1 (by omega)).trans ((hp_52.2.2.2.2.2.2 1 (by omega)).trans ((hi_40_3 1 (by omega)).trans ((hp_35.2.2.2.2.2 1 (by omega)).trans (hp_25.2.2.2.2 1 (by omega)))))).trans hn1
              have hdf := (congrArg Int32.toInt ((hp_60.2.2.2.2.2.2 117 (by omega)).trans ((hp_52.2.2.2.2.2.2 117 (by omega)).trans ((hi_40_3 117 (by omega)).trans (hp_35.2.2.2.2.2 117 (by omega)))))).trans hp_27
              refine lv_iconst (pc := 121) (v := 1) E.1 E.2.1 dX12_image_121 (by decide +kernel) ?_
              exact em_z (w1 := (fun (u : Int32 × Int32 × Int32 × Int32 × (Nat → Int32)) => (MW cI cJ M mr (upd (upd (upd (upd mi 0 u.1) 66 u.2.1) 67 u.2.2.1) 68 u.2.2.2.1) (va_up mf 69 u.2.2.2.2) mg))) E hr hlk (0, 1, 1, nkeptAt_56, gimages_57) hw58 ⟨(by show (1 : Int32).toInt = 1; have k_0 : (1 : Int32).toInt = 1 := (by decide +kernel); have k_1 : (0 : Int32).toInt = 0 := (by decide +kernel); have k_2 : (1 : Int32).toInt = 1 := (by decide +kernel); have k_3 : (1 : Int32).toInt = 1 := (by decide +kernel); have k_4 : (1 : Int32).toInt = 1 := (by decide +kernel); omega), (by show (1 : Int32).toInt = 1; have k_0 : (1 : Int32).toInt = 1 := (by decide +kernel); have k_1 : (0 : Int32).toInt = 0 := (by decide +kernel); have k_2 : (1 : Int32).toInt = 1 := (by decide +kernel); have k_3 : (1 : Int32).toInt = 1 := (by decide +kernel); have k_4 : (1 : Int32).toInt = 1 := (by decide +kernel); omega), (show IMGO ((1 : Int32).toInt) gimages_57 from (Or.inr hIMG)), (show ((gimages_57 66).toInt = (mi 6).toInt ∧ SGT gimages_57 (mf 7) 0 67 5 10 ∧ (gimages_57 121).toInt = (mi 17).toInt) from ⟨hc66, hpl, hc121⟩), (show (gimages_57 0).toInt = ((mf 1) 0).toInt from hc0), (show (gimages_57 1 = (mf 1) 1 ∧ (gimages_57 117).toInt = (mi 12).toInt) from ⟨hd1, hdf⟩)⟩ (by decide +kernel) (Nat.le_of_ble_eq_true rfl) (Nat.le_of_ble_eq_true rfl) dX12_image_122
            · skip
              have hc_44 := nleE (a := 900) (b := x_38.toInt) (by decide +kernel) rfl c_44
              refine lv_aload_n (pc := 80) E.1 E.2.1 dX12_image_80 rfl (lv_at hl43 1 rfl) ?_
              refine x_get (pc := 81) (T := TX12) (N := 70) (ci := 12) (v := .ref (mr 16)) E hw42 inX12 0 16 q_1415 rfl rfl (by decide) rfl rfl dX12_image_81 ?_
              refine lv_iload_n (pc := 84) E.1 E.2.1 dX12_image_84 rfl (lv_at hl43 0 rfl) ?_
              refine lv_aload_n (pc := 85) E.1 E.2.1 dX12_image_85 rfl (lv_at hl43 1 rfl) ?_
              refine lv_aload_n (pc := 86) E.1 E.2.1 dX12_image_86 rfl (lv_at hl43 1 rfl) ?_
              refine x_get (pc := 87) (T := TX12) (N := 70) (ci := 12) (v := .ref (mr 16)) E hw42 inX12 0 16 q_1415 rfl rfl (by decide) rfl rfl dX12_image_87 ?_
              refine lv_iload_n (pc := 90) E.1 E.2.1 dX12_image_90 rfl (lv_at hl43 0 rfl) ?_
              refine x_iald (pc := 91) (f := (mf 16)) E hw42 9 rfl (inbE (a := x_38.toInt) rfl (by omega)) dX12_image_91 ?_
              refine lv_topi (fun v_62 ev_62 => ?_)
              refine cm_i (pc := 92) hw42 (rn_M (As := [.int v_62]) (rest := [.int x_38, .ref (mr 16)]) E hw42 (s_kept1 l D cI cJ _ M mr (upd (upd (upd (upd mi 0 0) 66 1) 67 1) 68 x_39) (va_up mf 69 g_40) mg v_62 (by show (1 : Int32).toInt = 1; have k_1 : (1 : Int32).toInt = 1 := (by decide +kernel); omega) (by show 0 ≤ x_39.toInt ∧ x_39.toInt ≤ 3599; omega)) (gdV q_2125 q_2127 q_146 q_162 q_2128) hdV_X12_kept ⟨rfl, rfl⟩ ⟨(Nat.le_of_ble_eq_true rfl), (Nat.le_of_ble_eq_true rfl)⟩ ⟨(Nat.le_of_ble_eq_true rfl), (Nat.le_of_ble_eq_true rfl)⟩ 12 rfl rfl rfl rfl hl43.1 rfl (Nat.le_of_ble_eq_true rfl) dX12_image_92) (fun r_64 u_63 H1 locs hp hw65 => ?_)
              obtain ⟨nkeptAt_66, gimages_67⟩ := u_63
              generalize H1 = H at hw65 ⊢
              have hw68 : WD D A s.heap (MW cI cJ M mr (upd (upd (upd (upd mi 0 0) 66 1) 67 1) 68 nkeptAt_66) (va_up mf 69 gimages_67) mg) H locs := hw65
              obtain ⟨hp_69, hp_70⟩ := hp
              have hp_69 : nkeptAt_66.toInt = x_39.toInt + 1 := hp_69
              have hp_70 : (gimages_67 = upd g_40 (x_39).toNatClampNeg v_62 ∧ r_64 = v_62) := hp_70
              obtain ⟨egimages_67, rfl⟩ := hp_70
              refine x_iastG (pc := 95) (f := (mf 16)) (wf := fun g => (MW cI cJ M mr (upd (upd (upd (upd mi 0 0) 66 1) 67 1) 68 nkeptAt_66) (va_up (va_up mf 16 g) 69 gimages_67) mg)) E hw68 9 rfl (inbE (a := x_38.toInt) rfl (by omega)) (fun _ => rfl) dX12_image_95 (fun g_71 H locs eg_71 hw72 => ?_)
              obtain rfl : g_71 = (mf 16) := by rw [eg_71]; exact upd_same ev_62
              have hw73 : WD D A s.heap (MW cI cJ M mr (upd (upd (upd (upd mi 0 0) 66 1) 67 1) 68 nkeptAt_66) (va_up mf 69 gimages_67) mg) H locs := hw72
              obtain ⟨v_74, ev_74⟩ : ∃ z : Int32, x_38 + Int32.ofInt (1) = z := ⟨_, rfl⟩
              have hv_74 : v_74.toInt = x_38.toInt + (1) := by rw [← ev_74]; exact incE rfl (by decide) (by omega)
              refine lv_iinc (pc := 96) (v := v_74) (lv' := [(2, .int v_74), (0, .ref M), (1, .int 1)]) E.1 E.2.1 dX12_image_96 hl43 (k := 0) rfl ev_74 (by decide) rfl (fun ls hl75 => ?_)
              refine lv_goto (pc := 99) (tgt := 73) E.1 E.2.1 dX12_image_99 (by decide) ?_
              exact ih_41 v_74 nkeptAt_66 gimages_67 _ _ _ ⟨(by show 0 ≤ v_74.toInt; omega), (by show v_74.toInt ≤ 900; omega), (by show nkeptAt_66.toInt = 551 + v_74.toInt; omega), (FRM_put hi_40_3 egimages_67 (by omega))⟩ (by omega) hw73 (lv_sub hl75 [0, 1, 2] rfl)
        exact loop_37 (Int.toNat (900 - 0) + 1) 0 nkeptAt_31 gimages_32 _ _ _ ⟨(by show 0 ≤ (0 : Int32).toInt; have k_0 : (0 : Int32).toInt = 0 := (by decide +kernel); omega), (by show (0 : Int32).toInt ≤ 900; have k_0 : (0 : Int32).toInt = 0 := (by decide +kernel); omega), (by show nkeptAt_31.toInt = 551 + (0 : Int32).toInt; have k_0 : (0 : Int32).toInt = 0 := (by decide +kernel); omega), FRM_nil⟩ (by have k_0 : (0 : Int32).toInt = 0 := (by decide +kernel); omega) hw33 (lv_sub hl36 [0, 1, 2] rfl)
      · skip
        have hc_17 := nleE (a := 66) (b := x_11.toInt) (by decide +kernel) rfl c_17
        refine lv_aload_n (pc := 41) E.1 E.2.1 dX12_image_41 rfl (lv_at hl16 1 rfl) ?_
        refine x_get (pc := 42) (T := TX12) (N := 70) (ci := 12) (v := .ref (mr 1)) E hw15 inX12 0 1 q_1400 rfl rfl (by decide) rfl rfl dX12_image_42 ?_
        refine lv_iload_n (pc := 45) E.1 E.2.1 dX12_image_45 rfl (lv_at hl16 0 rfl) ?_
        refine lv_aload_n (pc := 46) E.1 E.2.1 dX12_image_46 rfl (lv_at hl16 1 rfl) ?_
        refine lv_aload_n (pc := 47) E.1 E.2.1 dX12_image_47 rfl (lv_at hl16 1 rfl) ?_
        refine x_get (pc := 48) (T := TX12) (N := 70) (ci := 12) (v := .ref (mr 1)) E hw15 inX12 0 1 q_1400 rfl rfl (by decide) rfl rfl dX12_image_48 ?_
        refine lv_iload_n (pc := 51) E.1 E.2.1 dX12_image_51 rfl (lv_at hl16 0 rfl) ?_
        refine x_iald (pc := 52) (f := (mf 1)) E hw15 1 rfl (inbE (a := x_11.toInt) rfl (by omega)) dX12_image_52 ?_
        refine lv_topi (fun v_76 ev_76 => ?_)
        refine cm_i (pc := 53) hw15 (rn_M (As := [.int v_76]) (rest := [.int x_11, .ref (mr 1)]) E hw15 (s_kept1 l D cI cJ _ M mr (upd (upd (upd (upd mi 0 0) 66 1) 67 1) 68 x_12) (va_up mf 69 g_13) mg v_76 (by show (1 : Int32).toInt = 1; have k_1 : (1 : Int32).toInt = 1 := (by decide +kernel); omega) (by show 0 ≤ x_12.toInt ∧ x_12.toInt ≤ 3599; omega)) (gdV q_2125 q_2127 q_146 q_162 q_2128) hdV_X12_kept ⟨rfl, rfl⟩ ⟨(Nat.le_of_ble_eq_true rfl), (Nat.le_of_ble_eq_true rfl)⟩ ⟨(Nat.le_of_ble_eq_true rfl), (Nat.le_of_ble_eq_true rfl)⟩ 12 rfl rfl rfl rfl hl16.1 rfl (Nat.le_of_ble_eq_true rfl) dX12_image_53) (fun r_78 u_77 H1 locs hp hw79 => ?_)
        obtain ⟨nkeptAt_80, gimages_81⟩ := u_77
        generalize H1 = H at hw79 ⊢
        have hw82 : WD D A s.heap (MW cI cJ M mr (upd (upd (upd (upd mi 0 0) 66 1) 67 1) 68 nkeptAt_80) (va_up mf 69 gimages_81) mg) H locs := hw79
        obtain ⟨hp_83, hp_84⟩ := hp
        have hp_83 : nkeptAt_80.toInt = x_12.toInt + 1 := hp_83
        have hp_84 : (gimages_81 = upd g_13 (x_12).toNatClampNeg v_76 ∧ r_78 = v_76) := hp_84
        obtain ⟨egimages_81, rfl⟩ := hp_84
        refine x_iastG (pc := 56) (f := (mf 1)) (wf := fun g => (MW cI cJ M mr (upd (upd (upd (upd mi 0 0) 66 1) 67 1) 68 nkeptAt_80) (va_up (va_up mf 1 g) 69 gimages_81) mg)) E hw82 1 rfl (inbE (a := x_11.toInt) rfl (by omega)) (fun _ => rfl) dX12_image_56 (fun g_85 H locs eg_85 hw86 => ?_)
        obtain rfl : g_85 = (mf 1) := by rw [eg_85]; exact upd_same ev_76
        have hw87 : WD D A s.heap (MW cI cJ M mr (upd (upd (upd (upd mi 0 0) 66 1) 67 1) 68 nkeptAt_80) (va_up mf 69 gimages_81) mg) H locs := hw86
        obtain ⟨v_88, ev_88⟩ : ∃ z : Int32, x_11 + Int32.ofInt (1) = z := ⟨_, rfl⟩
        have hv_88 : v_88.toInt = x_11.toInt + (1) := by rw [← ev_88]; exact incE rfl (by decide) (by omega)
        refine lv_iinc (pc := 57) (v := v_88) (lv' := [(2, .int v_88), (0, .ref M), (1, .int 1)]) E.1 E.2.1 dX12_image_57 hl16 (k := 0) rfl ev_88 (by decide) rfl (fun ls hl89 => ?_)
        refine lv_goto (pc := 60) (tgt := 35) E.1 E.2.1 dX12_image_60 (by decide) ?_
        exact ih_14 v_88 nkeptAt_80 gimages_81 _ _ _ ⟨(by show 0 ≤ v_88.toInt; omega), (by show v_88.toInt ≤ 66; omega), (by show nkeptAt_80.toInt = v_88.toInt; omega), (FRM_put hi_13_3 egimages_81 (by omega)), (SGT_put hi_13_4 egimages_81 (by omega) (by omega) ev_76 (by omega) (by decide) (m := v_88.toInt) (by omega))⟩ (by omega) hw87 (lv_sub hl89 [0, 1, 2] rfl)
  exact loop_10 (Int.toNat (66 - 0) + 1) 0 0 (mf 69) _ _ _ ⟨(by show 0 ≤ (0 : Int32).toInt; have k_0 : (0 : Int32).toInt = 0 := (by decide +kernel); omega), (by show (0 : Int32).toInt ≤ 66; have k_0 : (0 : Int32).toInt = 0 := (by decide +kernel); omega), rfl, FRM_nil, (SGT_nil (by decide +kernel))⟩ (by have k_0 : (0 : Int32).toInt = 0 := (by decide +kernel); have k_1 : (0 : Int32).toInt = 0 := (by decide +kernel); omega) hw8 (lv_sub hl9 [0, 1, 2] rfl)
