set_option maxHeartbeats 4000000 in
set_option maxRecDepth 100000 in
theorem s_keepsTexts0 (l : Launch) (D : va_G) (cI cJ : ClassId) (sz M : Nat) (mr : Nat → Nat) (mi : Nat → Int32) (mf : Nat → Nat → Int32) (mg : Nat → Nat → Int64)  (h0 : (mi 66).toInt = 0) (h1 : (mi 68).toInt = 138) : Met l yX12_keepsTexts (Cond.code yX12_keepsTexts cX12_keepsTexts 2 none :: GW) ({ frames := 2, cells := 0, slots := 0, locals := 61 } : Room) (va_Pc [.ref M] (PW D cI cJ sz (MW cI cJ M mr mi mf mg) xT)) (va_Qv (fun (u : Int32 × Int32 × (Nat → Int32) × Int32 × (Nat → Int32) × Int32 × (Nat → Int32)) => (u.1.toInt = 551) ∧ ((u.2.1.toInt = ((mf 69) 138).toInt ∧ SGT (mf 69) u.2.2.1 0 139 1 160 ∧ u.2.2.2.1.toInt = ((mf 69) 299).toInt ∧ u.2.2.2.2.2.1.toInt = ((mf 69) 350).toInt ∧ SGT (mf 69) u.2.2.2.2.2.2 0 351 1 200))) (fun u => QW D cI cJ (va_A (MW cI cJ M mr mi mf mg) sz) ((fun (u : Int32 × Int32 × (Nat → Int32) × Int32 × (Nat → Int32) × Int32 × (Nat → Int32)) => (MW cI cJ M mr (upd (upd (upd (upd mi 68 u.1) 42 u.2.1) 44 u.2.2.2.1) 49 u.2.2.2.2.2.1) (va_up (va_up (va_up mf 43 u.2.2.1) 45 u.2.2.2.2.1) 50 u.2.2.2.2.2.2) mg)) u)) (va_A (MW cI cJ M mr mi mf mg) sz)) 0 0 (va_A (MW cI cJ M mr mi mf mg) sz) := by
  refine mk_met (y := yX12_keepsTexts) (bytes := cX12_keepsTexts) (maxL := 2) (avs := [.ref M]) (WS := (MW cI cJ M mr mi mf mg)) (Qf := fun A => va_Qv (fun (u : Int32 × Int32 × (Nat → Int32) × Int32 × (Nat → Int32) × Int32 × (Nat → Int32)) => (u.1.toInt = 551) ∧ ((u.2.1.toInt = ((mf 69) 138).toInt ∧ SGT (mf 69) u.2.2.1 0 139 1 160 ∧ u.2.2.2.1.toInt = ((mf 69) 299).toInt ∧ u.2.2.2.2.2.1.toInt = ((mf 69) 350).toInt ∧ SGT (mf 69) u.2.2.2.2.2.2 0 351 1 200))) (fun u => QW D cI cJ A ((fun (u : Int32 × Int32 × (Nat → Int32) × Int32 × (Nat → Int32) × Int32 × (Nat → Int32)) => (MW cI cJ M mr (upd (upd (upd (upd mi 68 u.1) 42 u.2.1) 44 u.2.2.2.1) 49 u.2.2.2.2.2.1) (va_up (va_up (va_up mf 43 u.2.2.1) 45 u.2.2.2.2.1) 50 u.2.2.2.2.2.2) mg)) u)) A) (by decide) (Nat.le_of_ble_eq_true rfl) ?_
  intro p e s m below meth c A ls E hr hlk hnm hX hw1 hl2
  have hl3 : lv_has ls 2 [(0, .ref M)] := hl2
  refine lv_aload_n (pc := 0) E.1 E.2.1 dX12_keepsTexts_0 rfl (lv_at hl3 0 rfl) ?_
  refine lv_aload_n (pc := 1) E.1 E.2.1 dX12_keepsTexts_1 rfl (lv_at hl3 0 rfl) ?_
  refine lv_aload_n (pc := 2) E.1 E.2.1 dX12_keepsTexts_2 rfl (lv_at hl3 0 rfl) ?_
  refine x_get (pc := 3) (T := TX12) (N := 70) (ci := 12) (v := .int (mi 42)) E hw1 inX12 0 42 q_1441 rfl rfl (by decide) rfl rfl dX12_keepsTexts_3 ?_
  refine cm_i (pc := 6) hw1 (rn_M (As := [.int (mi 42)]) (rest := [.ref M]) E hw1 (s_kept0 l D cI cJ _ M mr mi mf mg (mi 42) h0 (by show 0 ≤ (mi 68).toInt ∧ (mi 68).toInt ≤ 3599; omega)) (gdV q_2125 q_2127 q_146 q_162 q_2128) hdV_X12_kept ⟨rfl, rfl⟩ ⟨(Nat.le_of_ble_eq_true rfl), (Nat.le_of_ble_eq_true rfl)⟩ ⟨(Nat.le_of_ble_eq_true rfl), (Nat.le_of_ble_eq_true rfl)⟩ 12 rfl rfl rfl rfl hl3.1 rfl (Nat.le_of_ble_eq_true rfl) dX12_keepsTexts_6) (fun r_5 u_4 H1 locs hp hw6 => ?_)
  obtain ⟨nkeptAt_7, rfl⟩ : ∃ z, z = u_4 := ⟨_, rfl⟩
  generalize H1 = H at hw6 ⊢
  have hw8 : WD D A s.heap (MW cI cJ M mr (upd mi 68 nkeptAt_7) mf mg) H locs := hw6
  obtain ⟨hp_9, hp_10⟩ := hp
  have hp_9 : nkeptAt_7.toInt = (mi 68).toInt + 1 := hp_9
  have hp_10 : r_5 = (mf 69) ((mi 68)).toNatClampNeg := hp_10
  have er_5 := hp_10
  refine x_put (pc := 9) (T := TX12) (N := 70) (ci := 12) (ws' := (MW cI cJ M mr (upd (upd mi 42 r_5) 68 nkeptAt_7) mf mg)) E hw8 inX12 tyX12_ok nmX12 0 42 q_1441 rfl rfl (by decide) rfl rfl rfl rfl (Nat.le_of_ble_eq_true rfl) rfl dX12_keepsTexts_9 (fun H locs hw11 => ?_)
  refine lv_iconst (pc := 12) (v := 0) E.1 E.2.1 dX12_keepsTexts_12 (by decide +kernel) ?_
  refine lv_istore_n (pc := 13) (lv' := [(1, .int 0), (0, .ref M)]) E.1 E.2.1 dX12_keepsTexts_13 rfl hl3 (by decide) rfl (fun ls hl12 => ?_)
  have loop_13 : ∀ (k : Nat) (x_14 : Int32) (x_15 : Int32) (g_16 : Nat → Int32) (H : Heap) (locs : List Loc) (ls : Array Slot), (0 ≤ x_14.toInt) ∧ (x_14.toInt ≤ 160) ∧ (x_15.toInt = 139 + x_14.toInt) ∧ (SGT (mf 69) g_16 0 139 1 x_14.toInt) → 160 - x_14.toInt < (k : Int) → WD D A s.heap (MW cI cJ M mr (upd (upd mi 42 r_5) 68 x_15) (va_up mf 43 g_16) mg) H locs → lv_has ls 2 [(1, .int x_14), (0, .ref M)] → W p l e ({ frames := 2, cells := 0, slots := 0, locals := 61 } : Room) s m ([.ref M] : List Value).toArray below meth c H locs 0 0 (MQ below (va_Qv (fun (u : Int32 × Int32 × (Nat → Int32) × Int32 × (Nat → Int32) × Int32 × (Nat → Int32)) => (u.1.toInt = 551) ∧ ((u.2.1.toInt = ((mf 69) 138).toInt ∧ SGT (mf 69) u.2.2.1 0 139 1 160 ∧ u.2.2.2.1.toInt = ((mf 69) 299).toInt ∧ u.2.2.2.2.2.1.toInt = ((mf 69) 350).toInt ∧ SGT (mf 69) u.2.2.2.2.2.2 0 351 1 200))) (fun u => QW D cI cJ A ((fun (u : Int32 × Int32 × (Nat → Int32) × Int32 × (Nat → Int32) × Int32 × (Nat → Int32)) => (MW cI cJ M mr (upd (upd (upd (upd mi 68 u.1) 42 u.2.1) 44 u.2.2.2.1) 49 u.2.2.2.2.2.1) (va_up (va_up (va_up mf 43 u.2.2.1) 45 u.2.2.2.2.1) 50 u.2.2.2.2.2.2) mg)) u)) A) ([.ref M] : List Value).toArray s 0 0 A) (F0 m 14 ls []) := by
    intro k
    induction k with
    | zero =>
      intro x_14 x_15 g_16 _ _ _ hinv hm
      obtain ⟨hi_16_0, hi_16_1, hi_16_2, hi_16_3⟩ := hinv
      exact absurd hm (by omega)
    | succ k ih_17 =>
      intro x_14 x_15 g_16 H locs ls hinv hm hw18 hl19
      obtain ⟨hi_16_0, hi_16_1, hi_16_2, hi_16_3⟩ := hinv
      refine lv_iload_n (pc := 14) E.1 E.2.1 dX12_keepsTexts_14 rfl (lv_at hl19 0 rfl) ?_
      refine lv_sipush (pc := 15) (v := 160) E.1 E.2.1 dX12_keepsTexts_15 (by decide +kernel) ?_
      refine lv_icmp_ge (pc := 18) (tgt := 43) E.1 E.2.1 dX12_keepsTexts_18 (by decide) (fun c_20 => ?_) (fun c_20 => ?_)
      · skip
        have hc_20 := leE (a := 160) (b := x_14.toInt) (by decide +kernel) rfl c_20
        refine lv_aload_n (pc := 43) E.1 E.2.1 dX12_keepsTexts_43 rfl (lv_at hl19 1 rfl) ?_
        refine lv_aload_n (pc := 44) E.1 E.2.1 dX12_keepsTexts_44 rfl (lv_at hl19 1 rfl) ?_
        refine lv_aload_n (pc := 45) E.1 E.2.1 dX12_keepsTexts_45 rfl (lv_at hl19 1 rfl) ?_
        refine x_get (pc := 46) (T := TX12) (N := 70) (ci := 12) (v := .int (mi 44)) E hw18 inX12 0 44 q_1443 rfl rfl (by decide) rfl rfl dX12_keepsTexts_46 ?_
        refine cm_i (pc := 49) hw18 (rn_M (As := [.int (mi 44)]) (rest := [.ref M]) E hw18 (s_kept0 l D cI cJ _ M mr (upd (upd mi 42 r_5) 68 x_15) (va_up mf 43 g_16) mg (mi 44) h0 (by show 0 ≤ x_15.toInt ∧ x_15.toInt ≤ 3599; omega)) (gdV q_2125 q_2127 q_146 q_162 q_2128) hdV_X12_kept ⟨rfl, rfl⟩ ⟨(Nat.le_of_ble_eq_true rfl), (Nat.le_of_ble_eq_true rfl)⟩ ⟨(Nat.le_of_ble_eq_true rfl), (Nat.le_of_ble_eq_true rfl)⟩ 12 rfl rfl rfl rfl hl19.1 rfl (Nat.le_of_ble_eq_true rfl) dX12_keepsTexts_49) (fun r_22 u_21 H1 locs hp hw23 => ?_)
        obtain ⟨nkeptAt_24, rfl⟩ : ∃ z, z = u_21 := ⟨_, rfl⟩
        generalize H1 = H at hw23 ⊢
        have hw25 : WD D A s.heap (MW cI cJ M mr (upd (upd mi 42 r_5) 68 nkeptAt_24) (va_up mf 43 g_16) mg) H locs := hw23
        obtain ⟨hp_26, hp_27⟩ := hp
        have hp_26 : nkeptAt_24.toInt = x_15.toInt + 1 := hp_26
        have hp_27 : r_22 = (mf 69) (x_15).toNatClampNeg := hp_27
        have er_22 := hp_27
        refine x_put (pc := 52) (T := TX12) (N := 70) (ci := 12) (ws' := (MW cI cJ M mr (upd (upd (upd mi 42 r_5) 44 r_22) 68 nkeptAt_24) (va_up mf 43 g_16) mg)) E hw25 inX12 tyX12_ok nmX12 0 44 q_1443 rfl rfl (by decide) rfl rfl rfl rfl (Nat.le_of_ble_eq_true rfl) rfl dX12_keepsTexts_52 (fun H locs hw28 => ?_)
        refine lv_iconst (pc := 55) (v := 0) E.1 E.2.1 dX12_keepsTexts_55 (by decide +kernel) ?_
        refine lv_istore_n (pc := 56) (lv' := [(1, .int 0), (0, .ref M)]) E.1 E.2.1 dX12_keepsTexts_56 rfl hl19 (by decide) rfl (fun ls hl29 => ?_)
        have loop_30 : ∀ (k : Nat) (x_31 : Int32) (x_32 : Int32) (g_33 : Nat → Int32) (H : Heap) (locs : List Loc) (ls : Array Slot), (0 ≤ x_31.toInt) ∧ (x_31.toInt ≤ 50) ∧ (x_32.toInt = 300 + x_31.toInt) → 50 - x_31.toInt < (k : Int) → WD D A s.heap (MW cI cJ M mr (upd (upd (upd mi 42 r_5) 44 r_22) 68 x_32) (va_up (va_up mf 43 g_16) 45 g_33) mg) H locs → lv_has ls 2 [(1, .int x_31), (0, .ref M)] → W p l e ({ frames := 2, cells := 0, slots := 0, locals := 61 } : Room) s m ([.ref M] : List Value).toArray below meth c H locs 0 0 (MQ below (va_Qv (fun (u : Int32 × Int32 × (Nat → Int32) × Int32 × (Nat → Int32) × Int32 × (Nat → Int32)) => (u.1.toInt = 551) ∧ ((u.2.1.toInt = ((mf 69) 138).toInt ∧ SGT (mf 69) u.2.2.1 0 139 1 160 ∧ u.2.2.2.1.toInt = ((mf 69) 299).toInt ∧ u.2.2.2.2.2.1.toInt = ((mf 69) 350).toInt ∧ SGT (mf 69) u.2.2.2.2.2.2 0 351 1 200))) (fun u => QW D cI cJ A ((fun (u : Int32 × Int32 × (Nat → Int32) × Int32 × (Nat → Int32) × Int32 × (Nat → Int32)) => (MW cI cJ M mr (upd (upd (upd (upd mi 68 u.1) 42 u.2.1) 44 u.2.2.2.1) 49 u.2.2.2.2.2.1) (va_up (va_up (va_up mf 43 u.2.2.1) 45 u.2.2.2.2.1) 50 u.2.2.2.2.2.2) mg)) u)) A) ([.ref M] : List Value).toArray s 0 0 A) (F0 m 57 ls []) := by
          intro k
          induction k with
          | zero =>
            intro x_31 x_32 g_33 _ _ _ hinv hm
            obtain ⟨hi_33_0, hi_33_1, hi_33_2⟩ := hinv
            exact absurd hm (by omega)
          | succ k ih_34 =>
            intro x_31 x_32 g_33 H locs ls hinv hm hw35 hl36
            obtain ⟨hi_33_0, hi_33_1, hi_33_2⟩ := hinv
            refine lv_iload_n (pc := 57) E.1 E.2.1 dX12_keepsTexts_57 rfl (lv_at hl36 0 rfl) ?_
            refine lv_bipush (pc := 58) (v := 50) E.1 E.2.1 dX12_keepsTexts_58 (by decide +kernel) ?_
            refine lv_icmp_ge (pc := 60) (tgt := 85) E.1 E.2.1 dX12_keepsTexts_60 (by decide) (fun c_37 => ?_) (fun c_37 => ?_)
            · skip
              have hc_37 := leE (a := 50) (b := x_31.toInt) (by decide +kernel) rfl c_37
              refine lv_aload_n (pc := 85) E.1 E.2.1 dX12_keepsTexts_85 rfl (lv_at hl36 1 rfl) ?_
              refine lv_aload_n (pc := 86) E.1 E.2.1 dX12_keepsTexts_86 rfl (lv_at hl36 1 rfl) ?_
              refine lv_aload_n (pc := 87) E.1 E.2.1 dX12_keepsTexts_87 rfl (lv_at hl36 1 rfl) ?_
              refine x_get (pc := 88) (T := TX12) (N := 70) (ci := 12) (v := .int (mi 49)) E hw35 inX12 0 49 q_1448 rfl rfl (by decide) rfl rfl dX12_keepsTexts_88 ?_
              refine cm_i (pc := 91) hw35 (rn_M (As := [.int (mi 49)]) (rest := [.ref M]) E hw35 (s_kept0 l D cI cJ _ M mr (upd (upd (upd mi 42 r_5) 44 r_22) 68 x_32) (va_up (va_up mf 43 g_16) 45 g_33) mg (mi 49) h0 (by show 0 ≤ x_32.toInt ∧ x_32.toInt ≤ 3599; omega)) (gdV q_2125 q_2127 q_146 q_162 q_2128) hdV_X12_kept ⟨rfl, rfl⟩ ⟨(Nat.le_of_ble_eq_true rfl), (Nat.le_of_ble_eq_true rfl)⟩ ⟨(Nat.le_of_ble_eq_true rfl), (Nat.le_of_ble_eq_true rfl)⟩ 12 rfl rfl rfl rfl hl36.1 rfl (Nat.le_of_ble_eq_true rfl) dX12_keepsTexts_91) (fun r_39 u_38 H1 locs hp hw40 => ?_)
              obtain ⟨nkeptAt_41, rfl⟩ : ∃ z, z = u_38 := ⟨_, rfl⟩
              generalize H1 = H at hw40 ⊢
              have hw42 : WD D A s.heap (MW cI cJ M mr (upd (upd (upd mi 42 r_5) 44 r_22) 68 nkeptAt_41) (va_up (va_up mf 43 g_16) 45 g_33) mg) H locs := hw40
              obtain ⟨hp_43, hp_44⟩ := hp
              have hp_43 : nkeptAt_41.toInt = x_32.toInt + 1 := hp_43
              have hp_44 : r_39 = (mf 69) (x_32).toNatClampNeg := hp_44
              have er_39 := hp_44
              refine x_put (pc := 94) (T := TX12) (N := 70) (ci := 12) (ws' := (MW cI cJ M mr (upd (upd (upd (upd mi 42 r_5) 44 r_22) 49 r_39) 68 nkeptAt_41) (va_up (va_up mf 43 g_16) 45 g_33) mg)) E hw42 inX12 tyX12_ok nmX12 0 49 q_1448 rfl rfl (by decide) rfl rfl rfl rfl (Nat.le_of_ble_eq_true rfl) rfl dX12_keepsTexts_94 (fun H locs hw45 => ?_)
              refine lv_iconst (pc := 97) (v := 0) E.1 E.2.1 dX12_keepsTexts_97 (by decide +kernel) ?_
              refine lv_istore_n (pc := 98) (lv' := [(1, .int 0), (0, .ref M)]) E.1 E.2.1 dX12_keepsTexts_98 rfl hl36 (by decide) rfl (fun ls hl46 => ?_)
              have loop_47 : ∀ (k : Nat) (x_48 : Int32) (x_49 : Int32) (g_50 : Nat → Int32) (H : Heap) (locs : List Loc) (ls : Array Slot), (0 ≤ x_48.toInt) ∧ (x_48.toInt ≤ 200) ∧ (x_49.toInt = 351 + x_48.toInt) ∧ (SGT (mf 69) g_50 0 351 1 x_48.toInt) → 200 - x_48.toInt < (k : Int) → WD D A s.heap (MW cI cJ M mr (upd (upd (upd (upd mi 42 r_5) 44 r_22) 49 r_39) 68 x_49) (va_up (va_up (va_up mf 43 g_16) 45 g_33) 50 g_50) mg) H locs → lv_has ls 2 [(1, .int x_48), (0, .ref M)] → W p l e ({ frames := 2, cells := 0, slots := 0, locals := 61 } : Room) s m ([.ref M] : List Value).toArray below meth c H locs 0 0 (MQ below (va_Qv (fun (u : Int32 × Int32 × (Nat → Int32) × Int32 × (Nat → Int32) × Int32 × (Nat → Int32)) => (u.1.toInt = 551) ∧ ((u.2.1.toInt = ((mf 69) 138).toInt ∧ SGT (mf 69) u.2.2.1 0 139 1 160 ∧ u.2.2.2.1.toInt = ((mf 69) 299).toInt ∧ u.2.2.2.2.2.1.toInt = ((mf 69) 350).toInt ∧ SGT (mf 69) u.2.2.2.2.2.2 0 351 1 200))) (fun u => QW D cI cJ A ((fun (u : Int32 × Int32 × (Nat → Int32) × Int32 × (Nat → Int32) × Int32 × (Nat → Int32)) => (MW cI cJ M mr (upd (upd (upd (upd mi 68 u.1) 42 u.2.1) 44 u.2.2.2.1) 49 u.2.2.2.2.2.1) (va_up (va_up (va_up mf 43 u.2.2.1) 45 u.2.2.2.2.1) 50 u.2.2.2.2.2.2) mg)) u)) A) ([.ref M] : List Value).toArray s 0 0 A) (F0 m 99 ls []) := by
                intro k
                induction k with
                | zero =>
                  intro x_48 x_49 g_50 _ _ _ hinv hm
                  obtain ⟨hi_50_0, hi_50_1, hi_50_2, hi_50_3⟩ := hinv
                  exact absurd hm (by omega)
                | succ k ih_51 =>
                  intro x_48 x_49 g_50 H locs ls hinv hm hw52 hl53
                  obtain ⟨hi_50_0, hi_50_1, hi_50_2, hi_50_3⟩ := hinv
                  refine lv_iload_n (pc := 99) E.1 E.2.1 dX12_keepsTexts_99 rfl (lv_at hl53 0 rfl) ?_
                  refine lv_sipush (pc := 100) (v := 200) E.1 E.2.1 dX12_keepsTexts_100 (by decide +kernel) ?_
                  refine lv_icmp_ge (pc := 103) (tgt := 128) E.1 E.2.1 dX12_keepsTexts_103 (by decide) (fun c_54 => ?_) (fun c_54 => ?_)
                  · skip
                    have hc_54 := leE (a := 200) (b := x_48.toInt) (by decide +kernel) rfl c_54
                    exact em_v (w1 := (fun (u : Int32 × Int32 × (Nat → Int32) × Int32 × (Nat → Int32) × Int32 × (Nat → Int32)) => (MW cI cJ M mr (upd (upd (upd (upd mi 68 u.1) 42 u.2.1) 44 u.2.2.2.1) 49 u.2.2.2.2.2.1) (va_up (va_up (va_up mf 43 u.2.2.1) 45 u.2.2.2.2.1) 50 u.2.2.2.2.2.2) mg))) E hr hlk (x_49, r_5, g_16, r_22, g_33, r_39, g_50) hw52 ⟨(by show x_49.toInt = 551; omega), (show (r_5.toInt = ((mf 69) 138).toInt ∧ SGT (mf 69) g_16 0 139 1 160 ∧ r_22.toInt = ((mf 69) 299).toInt ∧ r_39.toInt = ((mf 69) 350).toInt ∧ SGT (mf 69) g_50 0 351 1 200) from ⟨(by rw [er_5, atI (p := 138) (by omega)]), (SGT_n hi_16_3 (by omega)), (by rw [er_22, atI (p := 299) (by omega)]), (by rw [er_39, atI (p := 350) (by omega)]), (SGT_n hi_50_3 (by omega))⟩)⟩ (Nat.le_of_ble_eq_true rfl) (Nat.le_of_ble_eq_true rfl) dX12_keepsTexts_128
                  · skip
                    have hc_54 := nleE (a := 200) (b := x_48.toInt) (by decide +kernel) rfl c_54
                    refine lv_aload_n (pc := 106) E.1 E.2.1 dX12_keepsTexts_106 rfl (lv_at hl53 1 rfl) ?_
                    refine x_get (pc := 107) (T := TX12) (N := 70) (ci := 12) (v := .ref (mr 50)) E hw52 inX12 0 50 q_1449 rfl rfl (by decide) rfl rfl dX12_keepsTexts_107 ?_
                    refine lv_iload_n (pc := 110) E.1 E.2.1 dX12_keepsTexts_110 rfl (lv_at hl53 0 rfl) ?_
                    refine lv_aload_n (pc := 111) E.1 E.2.1 dX12_keepsTexts_111 rfl (lv_at hl53 1 rfl) ?_
                    refine lv_aload_n (pc := 112) E.1 E.2.1 dX12_keepsTexts_112 rfl (lv_at hl53 1 rfl) ?_
                    refine x_get (pc := 113) (T := TX12) (N := 70) (ci := 12) (v := .ref (mr 50)) E hw52 inX12 0 50 q_1449 rfl rfl (by decide) rfl rfl dX12_keepsTexts_113 ?_
                    refine lv_iload_n (pc := 116) E.1 E.2.1 dX12_keepsTexts_116 rfl (lv_at hl53 0 rfl) ?_
                    refine x_iald (pc := 117) (f := g_50) E hw52 25 rfl (inbE (a := x_48.toInt) rfl (by omega)) dX12_keepsTexts_117 ?_
                    refine lv_topi (fun v_55 ev_55 => ?_)
                    refine cm_i (pc := 118) hw52 (rn_M (As := [.int v_55]) (rest := [.int x_48, .ref (mr 50)]) E hw52 (s_kept0 l D cI cJ _ M mr (upd (upd (upd (upd mi 42 r_5) 44 r_22) 49 r_39) 68 x_49) (va_up (va_up (va_up mf 43 g_16) 45 g_33) 50 g_50) mg v_55 h0 (by show 0 ≤ x_49.toInt ∧ x_49.toInt ≤ 3599; omega)) (gdV q_2125 q_2127 q_146 q_162 q_2128) hdV_X12_kept ⟨rfl, rfl⟩ ⟨(Nat.le_of_ble_eq_true rfl), (Nat.le_of_ble_eq_true rfl)⟩ ⟨(Nat.le_of_ble_eq_true rfl), (Nat.le_of_ble_eq_true rfl)⟩ 12 rfl rfl rfl rfl hl53.1 rfl (Nat.le_of_ble_eq_true rfl) dX12_keepsTexts_118) (fun r_57 u_56 H1 locs hp hw58 => ?_)
                    obtain ⟨nkeptAt_59, rfl⟩ : ∃ z, z = u_56 := ⟨_, rfl⟩
                    generalize H1 = H at hw58 ⊢
                    have hw60 : WD D A s.heap (MW cI cJ M mr (upd (upd (upd (upd mi 42 r_5) 44 r_22) 49 r_39) 68 nkeptAt_59) (va_up (va_up (va_up mf 43 g_16) 45 g_33) 50 g_50) mg) H locs := hw58
                    obtain ⟨hp_61, hp_62⟩ := hp
                    have hp_61 : nkeptAt_59.toInt = x_49.toInt + 1 := hp_61
                    have hp_62 : r_57 = (mf 69) (x_49).toNatClampNeg := hp_62
                    have er_57 := hp_62
                    refine x_iastG (pc := 121) (f := g_50) (wf := fun g => (MW cI cJ M mr (upd (upd (upd (upd mi 42 r_5) 44 r_22) 49 r_39) 68 nkeptAt_59) (va_up (va_up (va_up mf 43 g_16) 45 g_33) 50 g) mg)) E hw60 25 rfl (inbE (a := x_48.toInt) rfl (by omega)) (fun _ => rfl) dX12_keepsTexts_121 (fun g_63 H locs eg_63 hw64 => ?_)
                    obtain ⟨v_65, ev_65⟩ : ∃ z : Int32, x_48 + Int32.ofInt (1) = z := ⟨_, rfl⟩
                    have hv_65 : v_65.toInt = x_48.toInt + (1) := by rw [← ev_65]; exact incE rfl (by decide) (by omega)
                    refine lv_iinc (pc := 122) (v := v_65) (lv' := [(1, .int v_65), (0, .ref M)]) E.1 E.2.1 dX12_keepsTexts_122 hl53 (k := 0) rfl ev_65 (by decide) rfl (fun ls hl66 => ?_)
                    refine lv_goto (pc := 125) (tgt := 99) E.1 E.2.1 dX12_keepsTexts_125 (by decide) ?_
                    exact ih_51 v_65 nkeptAt_59 g_63 _ _ _ ⟨(by show 0 ≤ v_65.toInt; omega), (by show v_65.toInt ≤ 200; omega), (by show nkeptAt_59.toInt = 351 + v_65.toInt; omega), (SGT_row hi_50_3 eg_63 (by omega) (by omega) er_57 (by omega) (m := v_65.toInt) (by omega))⟩ (by omega) hw64 (lv_sub hl66 [0, 1] rfl)
              exact loop_47 (Int.toNat (200 - 0) + 1) 0 nkeptAt_41 (mf 50) _ _ _ ⟨(by show 0 ≤ (0 : Int32).toInt; have k_0 : (0 : Int32).toInt = 0 := (by decide +kernel); omega), (by show (0 : Int32).toInt ≤ 200; have k_0 : (0 : Int32).toInt = 0 := (by decide +kernel); omega), (by show nkeptAt_41.toInt = 351 + (0 : Int32).toInt; have k_0 : (0 : Int32).toInt = 0 := (by decide +kernel); omega), (SGT_nil (by decide +kernel))⟩ (by have k_0 : (0 : Int32).toInt = 0 := (by decide +kernel); omega) hw45 (lv_sub hl46 [0, 1] rfl)
            · skip
              have hc_37 := nleE (a := 50) (b := x_31.toInt) (by decide +kernel) rfl c_37
              refine lv_aload_n (pc := 63) E.1 E.2.1 dX12_keepsTexts_63 rfl (lv_at hl36 1 rfl) ?_
              refine x_get (pc := 64) (T := TX12) (N := 70) (ci := 12) (v := .ref (mr 45)) E hw35 inX12 0 45 q_1444 rfl rfl (by decide) rfl rfl dX12_keepsTexts_64 ?_
              refine lv_iload_n (pc := 67) E.1 E.2.1 dX12_keepsTexts_67 rfl (lv_at hl36 0 rfl) ?_
              refine lv_aload_n (pc := 68) E.1 E.2.1 dX12_keepsTexts_68 rfl (lv_at hl36 1 rfl) ?_
              refine lv_aload_n (pc := 69) E.1 E.2.1 dX12_keepsTexts_69 rfl (lv_at hl36 1 rfl) ?_
              refine x_get (pc := 70) (T := TX12) (N := 70) (ci := 12) (v := .ref (mr 45)) E hw35 inX12 0 45 q_1444 rfl rfl (by decide) rfl rfl dX12_keepsTexts_70 ?_
              refine lv_iload_n (pc := 73) E.1 E.2.1 dX12_keepsTexts_73 rfl (lv_at hl36 0 rfl) ?_
              refine x_iald (pc := 74) (f := g_33) E hw35 22 rfl (inbE (a := x_31.toInt) rfl (by omega)) dX12_keepsTexts_74 ?_
              refine lv_topi (fun v_67 ev_67 => ?_)
              refine cm_i (pc := 75) hw35 (rn_M (As := [.int v_67]) (rest := [.int x_31, .ref (mr 45)]) E hw35 (s_kept0 l D cI cJ _ M mr (upd (upd (upd mi 42 r_5) 44 r_22) 68 x_32) (va_up (va_up mf 43 g_16) 45 g_33) mg v_67 h0 (by show 0 ≤ x_32.toInt ∧ x_32.toInt ≤ 3599; omega)) (gdV q_2125 q_2127 q_146 q_162 q_2128) hdV_X12_kept ⟨rfl, rfl⟩ ⟨(Nat.le_of_ble_eq_true rfl), (Nat.le_of_ble_eq_true rfl)⟩ ⟨(Nat.le_of_ble_eq_true rfl), (Nat.le_of_ble_eq_true rfl)⟩ 12 rfl rfl rfl rfl hl36.1 rfl (Nat.le_of_ble_eq_true rfl) dX12_keepsTexts_75) (fun r_69 u_68 H1 locs hp hw70 => ?_)
              obtain ⟨nkeptAt_71, rfl⟩ : ∃ z, z = u_68 := ⟨_, rfl⟩
              generalize H1 = H at hw70 ⊢
              have hw72 : WD D A s.heap (MW cI cJ M mr (upd (upd (upd mi 42 r_5) 44 r_22) 68 nkeptAt_71) (va_up (va_up mf 43 g_16) 45 g_33) mg) H locs := hw70
              obtain ⟨hp_73, hp_74⟩ := hp
              have hp_73 : nkeptAt_71.toInt = x_32.toInt + 1 := hp_73
              have hp_74 : r_69 = (mf 69) (x_32).toNatClampNeg := hp_74
              have er_69 := hp_74
              refine x_iastG (pc := 78) (f := g_33) (wf := fun g => (MW cI cJ M mr (upd (upd (upd mi 42 r_5) 44 r_22) 68 nkeptAt_71) (va_up (va_up mf 43 g_16) 45 g) mg)) E hw72 22 rfl (inbE (a := x_31.toInt) rfl (by omega)) (fun _ => rfl) dX12_keepsTexts_78 (fun g_75 H locs eg_75 hw76 => ?_)
              obtain ⟨v_77, ev_77⟩ : ∃ z : Int32, x_31 + Int32.ofInt (1) = z := ⟨_, rfl⟩
              have hv_77 : v_77.toInt = x_31.toInt + (1) := by rw [← ev_77]; exact incE rfl (by decide) (by omega)
              refine lv_iinc (pc := 79) (v := v_77) (lv' := [(1, .int v_77), (0, .ref M)]) E.1 E.2.1 dX12_keepsTexts_79 hl36 (k := 0) rfl ev_77 (by decide) rfl (fun ls hl78 => ?_)
              refine lv_goto (pc := 82) (tgt := 57) E.1 E.2.1 dX12_keepsTexts_82 (by decide) ?_
              exact ih_34 v_77 nkeptAt_71 g_75 _ _ _ ⟨(by show 0 ≤ v_77.toInt; omega), (by show v_77.toInt ≤ 50; omega), (by show nkeptAt_71.toInt = 300 + v_77.toInt; omega)⟩ (by omega) hw76 (lv_sub hl78 [0, 1] rfl)
        exact loop_30 (Int.toNat (50 - 0) + 1) 0 nkeptAt_24 (mf 45) _ _ _ ⟨(by show 0 ≤ (0 : Int32).toInt; have k_0 : (0 : Int32).toInt = 0 := (by decide +kernel); omega), (by show (0 : Int32).toInt ≤ 50; have k_0 : (0 : Int32).toInt = 0 := (by decide +kernel); omega), (by show nkeptAt_24.toInt = 300 + (0 : Int32).toInt; have k_0 : (0 : Int32).toInt = 0 := (by decide +kernel); omega)⟩ (by have k_0 : (0 : Int32).toInt = 0 := (by decide +kernel); omega) hw28 (lv_sub hl29 [0, 1] rfl)
      · skip
        have hc_20 := nleE (a := 160) (b := x_14.toInt) (by decide +kernel) rfl c_20
        refine lv_aload_n (pc := 21) E.1 E.2.1 dX12_keepsTexts_21 rfl (lv_at hl19 1 rfl) ?_
        refine x_get (pc := 22) (T := TX12) (N := 70) (ci := 12) (v := .ref (mr 43)) E hw18 inX12 0 43 q_1442 rfl rfl (by decide) rfl rfl dX12_keepsTexts_22 ?_
        refine lv_iload_n (pc := 25) E.1 E.2.1 dX12_keepsTexts_25 rfl (lv_at hl19 0 rfl) ?_
        refine lv_aload_n (pc := 26) E.1 E.2.1 dX12_keepsTexts_26 rfl (lv_at hl19 1 rfl) ?_
        refine lv_aload_n (pc := 27) E.1 E.2.1 dX12_keepsTexts_27 rfl (lv_at hl19 1 rfl) ?_
        refine x_get (pc := 28) (T := TX12) (N := 70) (ci := 12) (v := .ref (mr 43)) E hw18 inX12 0 43 q_1442 rfl rfl (by decide) rfl rfl dX12_keepsTexts_28 ?_
        refine lv_iload_n (pc := 31) E.1 E.2.1 dX12_keepsTexts_31 rfl (lv_at hl19 0 rfl) ?_
        refine x_iald (pc := 32) (f := g_16) E hw18 21 rfl (inbE (a := x_14.toInt) rfl (by omega)) dX12_keepsTexts_32 ?_
        refine lv_topi (fun v_79 ev_79 => ?_)
        refine cm_i (pc := 33) hw18 (rn_M (As := [.int v_79]) (rest := [.int x_14, .ref (mr 43)]) E hw18 (s_kept0 l D cI cJ _ M mr (upd (upd mi 42 r_5) 68 x_15) (va_up mf 43 g_16) mg v_79 h0 (by show 0 ≤ x_15.toInt ∧ x_15.toInt ≤ 3599; omega)) (gdV q_2125 q_2127 q_146 q_162 q_2128) hdV_X12_kept ⟨rfl, rfl⟩ ⟨(Nat.le_of_ble_eq_true rfl), (Nat.le_of_ble_eq_true rfl)⟩ ⟨(Nat.le_of_ble_eq_true rfl), (Nat.le_of_ble_eq_true rfl)⟩ 12 rfl rfl rfl rfl hl19.1 rfl (Nat.le_of_ble_eq_true rfl) dX12_keepsTexts_33) (fun r_81 u_80 H1 locs hp hw82 => ?_)
        obtain ⟨nkeptAt_83, rfl⟩ : ∃ z, z = u_80 := ⟨_, rfl⟩
        generalize H1 = H at hw82 ⊢
        have hw84 : WD D A s.heap (MW cI cJ M mr (upd (upd mi 42 r_5) 68 nkeptAt_83) (va_up mf 43 g_16) mg) H locs := hw82
        obtain ⟨hp_85, hp_86⟩ := hp
        have hp_85 : nkeptAt_83.toInt = x_15.toInt + 1 := hp_85
        have hp_86 : r_81 = (mf 69) (x_15).toNatClampNeg := hp_86
        have er_81 := hp_86
        refine x_iastG (pc := 36) (f := g_16) (wf := fun g => (MW cI cJ M mr (upd (upd mi 42 r_5) 68 nkeptAt_83) (va_up mf 43 g) mg)) E hw84 21 rfl (inbE (a := x_14.toInt) rfl (by omega)) (fun _ => rfl) dX12_keepsTexts_36 (fun g_87 H locs eg_87 hw88 => ?_)
        obtain ⟨v_89, ev_89⟩ : ∃ z : Int32, x_14 + Int32.ofInt (1) = z := ⟨_, rfl⟩
        have hv_89 : v_89.toInt = x_14.toInt + (1) := by rw [← ev_89]; exact incE rfl (by decide) (by omega)
        refine lv_iinc (pc := 37) (v := v_89) (lv' := [(1, .int v_89), (0, .ref M)]) E.1 E.2.1 dX12_keepsTexts_37 hl19 (k := 0) rfl ev_89 (by decide) rfl (fun ls hl90 => ?_)
        refine lv_goto (pc := 40) (tgt := 14) E.1 E.2.1 dX12_keepsTexts_40 (by decide) ?_
        exact ih_17 v_89 nkeptAt_83 g_87 _ _ _ ⟨(by show 0 ≤ v_89.toInt; omega), (by show v_89.toInt ≤ 160; omega), (by show nkeptAt_83.toInt = 139 + v_89.toInt; omega), (SGT_row hi_16_3 eg_87 (by omega) (by omega) er_81 (by omega) (m := v_89.toInt) (by omega))⟩ (by omega) hw88 (lv_sub hl90 [0, 1] rfl)
  exact loop_13 (Int.toNat (160 - 0) + 1) 0 nkeptAt_7 (mf 43) _ _ _ ⟨(by show 0 ≤ (0 : Int32).toInt; have k_0 : (0 : Int32).toInt = 0 := (by decide +kernel); omega), (by show (0 : Int32).toInt ≤ 160; have k_0 : (0 : Int32).toInt = 0 := (by decide +kernel); omega), (by show nkeptAt_7.toInt = 139 + (0 : Int32).toInt; have k_0 : (0 : Int32).toInt = 0 := (by decide +kernel); omega), (SGT_nil (by decide +kernel))⟩ (by have k_0 : (0 : Int32).toInt = 0 := (by decide +kernel); omega) hw11 (lv_sub hl12 [0, 1] rfl)

set_option maxHeartbeats 4000000 in
set_option maxRecDepth 100000 in
theorem s_keepsLaw0_0 (l : Launch) (D : va_G) (cI cJ : ClassId) (sz M : Nat) (mr : Nat → Nat) (mi : Nat → Int32) (mf : Nat → Nat → Int32) (mg : Nat → Nat → Int64)  (h0 : (mi 66).toInt = 0) (h1 : (mi 68).toInt = 1451) : Met l yX12_keepsLaw (Cond.code yX12_keepsLaw cX12_keepsLaw 3 none :: GW) ({ frames := 2, cells := 0, slots := 0, locals := 61 } : Room) (va_Pc [.ref M, .int 0] (PW D cI cJ sz (MW cI cJ M mr mi mf mg) xT)) (va_Qv (fun (u : Int32 × (Nat → Int32) × (Nat → Int32) × (Nat → Int32) × (Nat → Int32) × (Nat → Int32) × (Nat → Int32)) => (u.1.toInt = 2300) ∧ ((u.2.1 1).toInt = ((mf 27) 1).toInt) ∧ (LT0 1451 0 0 (mf 31) (mf 32) (mf 28) (mf 29) (mf 30) u.2.2.2.2.2.1 u.2.2.2.2.2.2 u.2.2.1 u.2.2.2.1 u.2.2.2.2.1 (mf 69) (u.2.1 0).toInt)) (fun u => QW D cI cJ (va_A (MW cI cJ M mr mi mf mg) sz) ((fun (u : Int32 × (Nat → Int32) × (Nat → Int32) × (Nat → Int32) × (Nat → Int32) × (Nat → Int32) × (Nat → Int32)) => (MW cI cJ M mr (upd mi 68 u.1) (va_up (va_up (va_up (va_up (va_up (va_up mf 27 u.2.1) 28 u.2.2.1) 29 u.2.2.2.1) 30 u.2.2.2.2.1) 31 u.2.2.2.2.2.1) 32 u.2.2.2.2.2.2) mg)) u)) (va_A (MW cI cJ M mr mi mf mg) sz)) 0 0 (va_A (MW cI cJ M mr mi mf mg) sz) := by
  refine mk_met (y := yX12_keepsLaw) (bytes := cX12_keepsLaw) (maxL := 3) (avs := [.ref M, .int 0]) (WS := (MW cI cJ M mr mi mf mg)) (Qf := fun A => va_Qv (fun (u : Int32 × (Nat → Int32) × (Nat → Int32) × (Nat → Int32) × (Nat → Int32) × (Nat → Int32) × (Nat → Int32)) => (u.1.toInt = 2300) ∧ ((u.2.1 1).toInt = ((mf 27) 1).toInt) ∧ (LT0 1451 0 0 (mf 31) (mf 32) (mf 28) (mf 29) (mf 30) u.2.2.2.2.2.1 u.2.2.2.2.2.2 u.2.2.1 u.2.2.2.1 u.2.2.2.2.1 (mf 69) (u.2.1 0).toInt)) (fun u => QW D cI cJ A ((fun (u : Int32 × (Nat → Int32) × (Nat → Int32) × (Nat → Int32) × (Nat → Int32) × (Nat → Int32) × (Nat → Int32)) => (MW cI cJ M mr (upd mi 68 u.1) (va_up (va_up (va_up (va_up (va_up (va_up mf 27 u.2.1) 28 u.2.2.1) 29 u.2.2.2.1) 30 u.2.2.2.2.1) 31 u.2.2.2.2.2.1) 32 u.2.2.2.2.2.2) mg)) u)) A) (by decide) (Nat.le_of_ble_eq_true rfl) ?_
  intro p e s m below meth c A ls E hr hlk hnm hX hw1 hl2
  have hl3 : lv_has ls 3 [(0, .ref M), (1, .int 0)] := hl2
  refine lv_aload_n (pc := 0) E.1 E.2.1 dX12_keepsLaw_0 rfl (lv_at hl3 0 rfl) ?_
  refine x_get (pc := 1) (T := TX12) (N := 70) (ci := 12) (v := .ref (mr 27)) E hw1 inX12 0 27 q_1426 rfl rfl (by decide) rfl rfl dX12_keepsLaw_1 ?_
  refine lv_iload_n (pc := 4) E.1 E.2.1 dX12_keepsLaw_4 rfl (lv_at hl3 1 rfl) ?_
  refine lv_aload_n (pc := 5) E.1 E.2.1 dX12_keepsLaw_5 rfl (lv_at hl3 0 rfl) ?_
  refine lv_aload_n (pc := 6) E.1 E.2.1 dX12_keepsLaw_6 rfl (lv_at hl3 0 rfl) ?_
  refine x_get (pc := 7) (T := TX12) (N := 70) (ci := 12) (v := .ref (mr 27)) E hw1 inX12 0 27 q_1426 rfl rfl (by decide) rfl rfl dX12_keepsLaw_7 ?_
  refine lv_iload_n (pc := 10) E.1 E.2.1 dX12_keepsLaw_10 rfl (lv_at hl3 1 rfl) ?_
  refine x_iald (pc := 11) (f := (mf 27)) E hw1 14 rfl (inbE (a := 0) (by decide +kernel) (by omega)) dX12_keepsLaw_11 ?_
  refine lv_topi (fun v_4 ev_4 => ?_)
  have hv_4 : v_4.toInt = ((mf 27) 0).toInt := by rw [ev_4]; rfl
  refine cm_i (pc := 12) hw1 (rn_M (As := [.int v_4]) (rest := [.int 0, .ref (mr 27)]) E hw1 (s_kept0 l D cI cJ _ M mr mi mf mg v_4 h0 (by show 0 ≤ (mi 68).toInt ∧ (mi 68).toInt ≤ 3599; omega)) (gdV q_2125 q_2127 q_146 q_162 q_2128) hdV_X12_kept ⟨rfl, rfl⟩ ⟨(Nat.le_of_ble_eq_true rfl), (Nat.le_of_ble_eq_true rfl)⟩ ⟨(Nat.le_of_ble_eq_true rfl), (Nat.le_of_ble_eq_true rfl)⟩ 12 rfl rfl rfl rfl hl3.1 rfl (Nat.le_of_ble_eq_true rfl) dX12_keepsLaw_12) (fun r_6 u_5 H1 locs hp hw7 => ?_)
  obtain ⟨nkeptAt_8, rfl⟩ : ∃ z, z = u_5 := ⟨_, rfl⟩
  generalize H1 = H at hw7 ⊢
  have hw9 : WD D A s.heap (MW cI cJ M mr (upd mi 68 nkeptAt_8) mf mg) H locs := hw7
  obtain ⟨hp_10, hp_11⟩ := hp
  have hp_10 : nkeptAt_8.toInt = (mi 68).toInt + 1 := hp_10
  have hp_11 : r_6 = (mf 69) ((mi 68)).toNatClampNeg := hp_11
  have er_6 := hp_11
  refine x_iastG (pc := 15) (f := (mf 27)) (wf := fun g => (MW cI cJ M mr (upd mi 68 nkeptAt_8) (va_up mf 27 g) mg)) E hw9 14 rfl (inbE (a := 0) (by decide +kernel) (by omega)) (fun _ => rfl) dX12_keepsLaw_15 (fun g_12 H locs eg_12 hw13 => ?_)
  have ht_14 : (g_12 0).toInt = (r_6 : Int32).toInt := by rw [eg_12]; rfl
  have ht_15 : (g_12 1).toInt = ((mf 27) 1).toInt := by rw [eg_12]; rfl
  refine lv_bipush (pc := 16) (v := 16) E.1 E.2.1 dX12_keepsLaw_16 (by decide +kernel) ?_
  refine lv_iload_n (pc := 18) E.1 E.2.1 dX12_keepsLaw_18 rfl (lv_at hl3 1 rfl) ?_
  refine lv_imul (pc := 19) E.1 E.2.1 dX12_keepsLaw_19 ?_
  refine tI (y := 0) (by decide +kernel) ?_
  refine lv_istore_n (pc := 20) (lv' := [(2, .int 0), (0, .ref M), (1, .int 0)]) E.1 E.2.1 dX12_keepsLaw_20 rfl hl3 (by decide) rfl (fun ls hl16 => ?_)
  have loop_17 : ∀ (k : Nat) (x_18 : Int32) (x_19 : Int32) (g_20 : Nat → Int32) (g_21 : Nat → Int32) (g_22 : Nat → Int32) (H : Heap) (locs : List Loc) (ls : Array Slot), (0 ≤ x_18.toInt) ∧ (x_18.toInt ≤ 16) ∧ (x_19.toInt = 1452 + 3 * x_18.toInt) ∧ (SGT (mf 69) g_20 0 1452 3 x_18.toInt) ∧ (SGT (mf 69) g_21 0 1453 3 x_18.toInt) ∧ (SGT (mf 69) g_22 0 1454 3 x_18.toInt) → 16 - x_18.toInt < (k : Int) → WD D A s.heap (MW cI cJ M mr (upd mi 68 x_19) (va_up (va_up (va_up (va_up mf 27 g_12) 28 g_20) 29 g_21) 30 g_22) mg) H locs → lv_has ls 3 [(2, .int x_18), (0, .ref M), (1, .int 0)] → W p l e ({ frames := 2, cells := 0, slots := 0, locals := 61 } : Room) s m ([.ref M, .int 0] : List Value).toArray below meth c H locs 0 0 (MQ below (va_Qv (fun (u : Int32 × (Nat → Int32) × (Nat → Int32) × (Nat → Int32) × (Nat → Int32) × (Nat → Int32) × (Nat → Int32)) => (u.1.toInt = 2300) ∧ ((u.2.1 1).toInt = ((mf 27) 1).toInt) ∧ (LT0 1451 0 0 (mf 31) (mf 32) (mf 28) (mf 29) (mf 30) u.2.2.2.2.2.1 u.2.2.2.2.2.2 u.2.2.1 u.2.2.2.1 u.2.2.2.2.1 (mf 69) (u.2.1 0).toInt)) (fun u => QW D cI cJ A ((fun (u : Int32 × (Nat → Int32) × (Nat → Int32) × (Nat → Int32) × (Nat → Int32) × (Nat → Int32) × (Nat → Int32)) => (MW cI cJ M mr (upd mi 68 u.1) (va_up (va_up (va_up (va_up (va_up (va_up mf 27 u.2.1) 28 u.2.2.1) 29 u.2.2.2.1) 30 u.2.2.2.2.1) 31 u.2.2.2.2.2.1) 32 u.2.2.2.2.2.2) mg)) u)) A) ([.ref M, .int 0] : List Value).toArray s 0 0 A) (F0 m 21 ls []) := by
    intro k
    induction k with
    | zero =>
      intro x_18 x_19 g_20 g_21 g_22 _ _ _ hinv hm
      obtain ⟨hi_22_0, hi_22_1, hi_22_2, hi_22_3, hi_22_4, hi_22_5⟩ := hinv
      exact absurd hm (by omega)
    | succ k ih_23 =>
      intro x_18 x_19 g_20 g_21 g_22 H locs ls hinv hm hw24 hl25
      obtain ⟨hi_22_0, hi_22_1, hi_22_2, hi_22_3, hi_22_4, hi_22_5⟩ := hinv
      refine lv_iload_n (pc := 21) E.1 E.2.1 dX12_keepsLaw_21 rfl (lv_at hl25 0 rfl) ?_
      refine lv_bipush (pc := 22) (v := 16) E.1 E.2.1 dX12_keepsLaw_22 (by decide +kernel) ?_
      refine lv_iload_n (pc := 24) E.1 E.2.1 dX12_keepsLaw_24 rfl (lv_at hl25 2 rfl) ?_
      refine lv_imul (pc := 25) E.1 E.2.1 dX12_keepsLaw_25 ?_
      refine tI (y := 0) (by decide +kernel) ?_
      refine lv_bipush (pc := 26) (v := 16) E.1 E.2.1 dX12_keepsLaw_26 (by decide +kernel) ?_
      refine lv_iadd (pc := 28) E.1 E.2.1 dX12_keepsLaw_28 ?_
      refine tI (y := 16) (by decide +kernel) ?_
      refine lv_icmp_ge (pc := 29) (tgt := 86) E.1 E.2.1 dX12_keepsLaw_29 (by decide) (fun c_26 => ?_) (fun c_26 => ?_)
      · skip
        have hc_26 := leE (a := 16) (b := x_18.toInt) (by decide +kernel) rfl c_26
        refine lv_sipush (pc := 86) (v := 400) E.1 E.2.1 dX12_keepsLaw_86 (by decide +kernel) ?_
        refine lv_iload_n (pc := 89) E.1 E.2.1 dX12_keepsLaw_89 rfl (lv_at hl25 2 rfl) ?_
        refine lv_imul (pc := 90) E.1 E.2.1 dX12_keepsLaw_90 ?_
        refine tI (y := 0) (by decide +kernel) ?_
        refine lv_istore_n (pc := 91) (lv' := [(2, .int 0), (0, .ref M), (1, .int 0)]) E.1 E.2.1 dX12_keepsLaw_91 rfl hl25 (by decide) rfl (fun ls hl27 => ?_)
        have loop_28 : ∀ (k : Nat) (x_29 : Int32) (x_30 : Int32) (g_31 : Nat → Int32) (g_32 : Nat → Int32) (H : Heap) (locs : List Loc) (ls : Array Slot), (0 ≤ x_29.toInt) ∧ (x_29.toInt ≤ 400) ∧ (x_30.toInt = 1500 + 2 * x_29.toInt) ∧ (SGT (mf 69) g_31 0 1500 2 x_29.toInt) ∧ (SGT (mf 69) g_32 0 1501 2 x_29.toInt) → 400 - x_29.toInt < (k : Int) → WD D A s.heap (MW cI cJ M mr (upd mi 68 x_30) (va_up (va_up (va_up (va_up (va_up (va_up mf 27 g_12) 28 g_20) 29 g_21) 30 g_22) 31 g_31) 32 g_32) mg) H locs → lv_has ls 3 [(2, .int x_29), (0, .ref M), (1, .int 0)] → W p l e ({ frames := 2, cells := 0, slots := 0, locals := 61 } : Room) s m ([.ref M, .int 0] : List Value).toArray below meth c H locs 0 0 (MQ below (va_Qv (fun (u : Int32 × (Nat → Int32) × (Nat → Int32) × (Nat → Int32) × (Nat → Int32) × (Nat → Int32) × (Nat → Int32)) => (u.1.toInt = 2300) ∧ ((u.2.1 1).toInt = ((mf 27) 1).toInt) ∧ (LT0 1451 0 0 (mf 31) (mf 32) (mf 28) (mf 29) (mf 30) u.2.2.2.2.2.1 u.2.2.2.2.2.2 u.2.2.1 u.2.2.2.1 u.2.2.2.2.1 (mf 69) (u.2.1 0).toInt)) (fun u => QW D cI cJ A ((fun (u : Int32 × (Nat → Int32) × (Nat → Int32) × (Nat → Int32) × (Nat → Int32) × (Nat → Int32) × (Nat → Int32)) => (MW cI cJ M mr (upd mi 68 u.1) (va_up (va_up (va_up (va_up (va_up (va_up mf 27 u.2.1) 28 u.2.2.1) 29 u.2.2.2.1) 30 u.2.2.2.2.1) 31 u.2.2.2.2.2.1) 32 u.2.2.2.2.2.2) mg)) u)) A) ([.ref M, .int 0] : List Value).toArray s 0 0 A) (F0 m 92 ls []) := by
          intro k
          induction k with
          | zero =>
            intro x_29 x_30 g_31 g_32 _ _ _ hinv hm
            obtain ⟨hi_32_0, hi_32_1, hi_32_2, hi_32_3, hi_32_4⟩ := hinv
            exact absurd hm (by omega)
          | succ k ih_33 =>
            intro x_29 x_30 g_31 g_32 H locs ls hinv hm hw34 hl35
            obtain ⟨hi_32_0, hi_32_1, hi_32_2, hi_32_3, hi_32_4⟩ := hinv
            refine lv_iload_n (pc := 92) E.1 E.2.1 dX12_keepsLaw_92 rfl (lv_at hl35 0 rfl) ?_
            refine lv_sipush (pc := 93) (v := 400) E.1 E.2.1 dX12_keepsLaw_93 (by decide +kernel) ?_
            refine lv_iload_n (pc := 96) E.1 E.2.1 dX12_keepsLaw_96 rfl (lv_at hl35 2 rfl) ?_
            refine lv_imul (pc := 97) E.1 E.2.1 dX12_keepsLaw_97 ?_
            refine tI (y := 0) (by decide +kernel) ?_
            refine lv_sipush (pc := 98) (v := 400) E.1 E.2.1 dX12_keepsLaw_98 (by decide +kernel) ?_
            refine lv_iadd (pc := 101) E.1 E.2.1 dX12_keepsLaw_101 ?_
            refine tI (y := 400) (by decide +kernel) ?_
            refine lv_icmp_ge (pc := 102) (tgt := 143) E.1 E.2.1 dX12_keepsLaw_102 (by decide) (fun c_36 => ?_) (fun c_36 => ?_)
            · skip
              have hc_36 := leE (a := 400) (b := x_29.toInt) (by decide +kernel) rfl c_36
              exact em_v (w1 := (fun (u : Int32 × (Nat → Int32) × (Nat → Int32) × (Nat → Int32) × (Nat → Int32) × (Nat → Int32) × (Nat → Int32)) => (MW cI cJ M mr (upd mi 68 u.1) (va_up (va_up (va_up (va_up (va_up (va_up mf 27 u.2.1) 28 u.2.2.1) 29 u.2.2.2.1) 30 u.2.2.2.2.1) 31 u.2.2.2.2.2.1) 32 u.2.2.2.2.2.2) mg))) E hr hlk (x_30, g_12, g_20, g_21, g_22, g_31, g_32) hw34 ⟨(by show x_30.toInt = 2300; omega), (by show (g_12 1).toInt = ((mf 27) 1).toInt; omega), (show LT0 1451 0 0 (mf 31) (mf 32) (mf 28) (mf 29) (mf 30) g_31 g_32 g_20 g_21 g_22 (mf 69) (g_12 0).toInt from ⟨(by have q : g_12 0 = r_6 := us1 (j := 0) eg_12 (by decide +kernel) (by decide +kernel); rw [q, er_6, atI (p := 1451) (by omega)]), ⟨SGT_n hi_22_3 (by omega), (fun j hj => absurd hj (by omega))⟩, ⟨SGT_n hi_22_4 (by omega), (fun j hj => absurd hj (by omega))⟩, ⟨SGT_n hi_22_5 (by omega), (fun j hj => absurd hj (by omega))⟩, ⟨SGT_n hi_32_3 (by omega), (fun j hj => absurd hj (by omega))⟩, ⟨SGT_n hi_32_4 (by omega), (fun j hj => absurd hj (by omega))⟩⟩)⟩ (Nat.le_of_ble_eq_true rfl) (Nat.le_of_ble_eq_true rfl) dX12_keepsLaw_143
            · skip
              have hc_36 := nleE (a := 400) (b := x_29.toInt) (by decide +kernel) rfl c_36
              refine lv_aload_n (pc := 105) E.1 E.2.1 dX12_keepsLaw_105 rfl (lv_at hl35 1 rfl) ?_
              refine x_get (pc := 106) (T := TX12) (N := 70) (ci := 12) (v := .ref (mr 31)) E hw34 inX12 0 31 q_1430 rfl rfl (by decide) rfl rfl dX12_keepsLaw_106 ?_
              refine lv_iload_n (pc := 109) E.1 E.2.1 dX12_keepsLaw_109 rfl (lv_at hl35 0 rfl) ?_
              refine lv_aload_n (pc := 110) E.1 E.2.1 dX12_keepsLaw_110 rfl (lv_at hl35 1 rfl) ?_
              refine lv_aload_n (pc := 111) E.1 E.2.1 dX12_keepsLaw_111 rfl (lv_at hl35 1 rfl) ?_
              refine x_get (pc := 112) (T := TX12) (N := 70) (ci := 12) (v := .ref (mr 31)) E hw34 inX12 0 31 q_1430 rfl rfl (by decide) rfl rfl dX12_keepsLaw_112 ?_
              refine lv_iload_n (pc := 115) E.1 E.2.1 dX12_keepsLaw_115 rfl (lv_at hl35 0 rfl) ?_
              refine x_iald (pc := 116) (f := g_31) E hw34 18 rfl (inbE (a := x_29.toInt) rfl (by omega)) dX12_keepsLaw_116 ?_
              refine lv_topi (fun v_37 ev_37 => ?_)
              refine cm_i (pc := 117) hw34 (rn_M (As := [.int v_37]) (rest := [.int x_29, .ref (mr 31)]) E hw34 (s_kept0 l D cI cJ _ M mr (upd mi 68 x_30) (va_up (va_up (va_up (va_up (va_up (va_up mf 27 g_12) 28 g_20) 29 g_21) 30 g_22) 31 g_31) 32 g_32) mg v_37 h0 (by show 0 ≤ x_30.toInt ∧ x_30.toInt ≤ 3599; omega)) (gdV q_2125 q_2127 q_146 q_162 q_2128) hdV_X12_kept ⟨rfl, rfl⟩ ⟨(Nat.le_of_ble_eq_true rfl), (Nat.le_of_ble_eq_true rfl)⟩ ⟨(Nat.le_of_ble_eq_true rfl), (Nat.le_of_ble_eq_true rfl)⟩ 12 rfl rfl rfl rfl hl35.1 rfl (Nat.le_of_ble_eq_true rfl) dX12_keepsLaw_117) (fun r_39 u_38 H1 locs hp hw40 => ?_)
              obtain ⟨nkeptAt_41, rfl⟩ : ∃ z, z = u_38 := ⟨_, rfl⟩
              generalize H1 = H at hw40 ⊢
              have hw42 : WD D A s.heap (MW cI cJ M mr (upd mi 68 nkeptAt_41) (va_up (va_up (va_up (va_up (va_up (va_up mf 27 g_12) 28 g_20) 29 g_21) 30 g_22) 31 g_31) 32 g_32) mg) H locs := hw40
              obtain ⟨hp_43, hp_44⟩ := hp
              have hp_43 : nkeptAt_41.toInt = x_30.toInt + 1 := hp_43
              have hp_44 : r_39 = (mf 69) (x_30).toNatClampNeg := hp_44
              have er_39 := hp_44
              refine x_iastG (pc := 120) (f := g_31) (wf := fun g => (MW cI cJ M mr (upd mi 68 nkeptAt_41) (va_up (va_up (va_up (va_up (va_up (va_up mf 27 g_12) 28 g_20) 29 g_21) 30 g_22) 31 g) 32 g_32) mg)) E hw42 18 rfl (inbE (a := x_29.toInt) rfl (by omega)) (fun _ => rfl) dX12_keepsLaw_120 (fun g_45 H locs eg_45 hw46 => ?_)
              refine lv_aload_n (pc := 121) E.1 E.2.1 dX12_keepsLaw_121 rfl (lv_at hl35 1 rfl) ?_
              refine x_get (pc := 122) (T := TX12) (N := 70) (ci := 12) (v := .ref (mr 32)) E hw46 inX12 0 32 q_1431 rfl rfl (by decide) rfl rfl dX12_keepsLaw_122 ?_
              refine lv_iload_n (pc := 125) E.1 E.2.1 dX12_keepsLaw_125 rfl (lv_at hl35 0 rfl) ?_
              refine lv_aload_n (pc := 126) E.1 E.2.1 dX12_keepsLaw_126 rfl (lv_at hl35 1 rfl) ?_
              refine lv_aload_n (pc := 127) E.1 E.2.1 dX12_keepsLaw_127 rfl (lv_at hl35 1 rfl) ?_
              refine x_get (pc := 128) (T := TX12) (N := 70) (ci := 12) (v := .ref (mr 32)) E hw46 inX12 0 32 q_1431 rfl rfl (by decide) rfl rfl dX12_keepsLaw_128 ?_
              refine lv_iload_n (pc := 131) E.1 E.2.1 dX12_keepsLaw_131 rfl (lv_at hl35 0 rfl) ?_
              refine x_iald (pc := 132) (f := g_32) E hw46 19 rfl (inbE (a := x_29.toInt) rfl (by omega)) dX12_keepsLaw_132 ?_
              refine lv_topi (fun v_47 ev_47 => ?_)
              refine cm_i (pc := 133) hw46 (rn_M (As := [.int v_47]) (rest := [.int x_29, .ref (mr 32)]) E hw46 (s_kept0 l D cI cJ _ M mr (upd mi 68 nkeptAt_41) (va_up (va_up (va_up (va_up (va_up (va_up mf 27 g_12) 28 g_20) 29 g_21) 30 g_22) 31 g_45) 32 g_32) mg v_47 h0 (by show 0 ≤ nkeptAt_41.toInt ∧ nkeptAt_41.toInt ≤ 3599; omega)) (gdV q_2125 q_2127 q_146 q_162 q_2128) hdV_X12_kept ⟨rfl, rfl⟩ ⟨(Nat.le_of_ble_eq_true rfl), (Nat.le_of_ble_eq_true rfl)⟩ ⟨(Nat.le_of_ble_eq_true rfl), (Nat.le_of_ble_eq_true rfl)⟩ 12 rfl rfl rfl rfl hl35.1 rfl (Nat.le_of_ble_eq_true rfl) dX12_keepsLaw_133) (fun r_49 u_48 H1 locs hp hw50 => ?_)
              obtain ⟨nkeptAt_51, rfl⟩ : ∃ z, z = u_48 := ⟨_, rfl⟩
              generalize H1 = H at hw50 ⊢
              have hw52 : WD D A s.heap (MW cI cJ M mr (upd mi 68 nkeptAt_51) (va_up (va_up (va_up (va_up (va_up (va_up mf 27 g_12) 28 g_20) 29 g_21) 30 g_22) 31 g_45) 32 g_32) mg) H locs := hw50
              obtain ⟨hp_53, hp_54⟩ := hp
              have hp_53 : nkeptAt_51.toInt = nkeptAt_41.toInt + 1 := hp_53
              have hp_54 : r_49 = (mf 69) (nkeptAt_41).toNatClampNeg := hp_54
              have er_49 := hp_54
              refine x_iastG (pc := 136) (f := g_32) (wf := fun g => (MW cI cJ M mr (upd mi 68 nkeptAt_51) (va_up (va_up (va_up (va_up (va_up (va_up mf 27 g_12) 28 g_20) 29 g_21) 30 g_22) 31 g_45) 32 g) mg)) E hw52 19 rfl (inbE (a := x_29.toInt) rfl (by omega)) (fun _ => rfl) dX12_keepsLaw_136 (fun g_55 H locs eg_55 hw56 => ?_)
              obtain ⟨v_57, ev_57⟩ : ∃ z : Int32, x_29 + Int32.ofInt (1) = z := ⟨_, rfl⟩
              have hv_57 : v_57.toInt = x_29.toInt + (1) := by rw [← ev_57]; exact incE rfl (by decide) (by omega)
              refine lv_iinc (pc := 137) (v := v_57) (lv' := [(2, .int v_57), (0, .ref M), (1, .int 0)]) E.1 E.2.1 dX12_keepsLaw_137 hl35 (k := 0) rfl ev_57 (by decide) rfl (fun ls hl58 => ?_)
              refine lv_goto (pc := 140) (tgt := 92) E.1 E.2.1 dX12_keepsLaw_140 (by decide) ?_
              exact ih_33 v_57 nkeptAt_51 g_45 g_55 _ _ _ ⟨(by show 0 ≤ v_57.toInt; omega), (by show v_57.toInt ≤ 400; omega), (by show nkeptAt_51.toInt = 1500 + 2 * v_57.toInt; omega), (SGT_row hi_32_3 eg_45 (by omega) (by omega) er_39 (by omega) (m := v_57.toInt) (by omega)), (SGT_row hi_32_4 eg_55 (by omega) (by omega) er_49 (by omega) (m := v_57.toInt) (by omega))⟩ (by omega) hw56 (lv_sub hl58 [0, 1, 2] rfl)
        exact loop_28 (Int.toNat (400 - 0) + 1) 0 x_19 (mf 31) (mf 32) _ _ _ ⟨(by show 0 ≤ (0 : Int32).toInt; have k_0 : (0 : Int32).toInt = 0 := (by decide +kernel); omega), (by show (0 : Int32).toInt ≤ 400; have k_0 : (0 : Int32).toInt = 0 := (by decide +kernel); omega), (by show x_19.toInt = 1500 + 2 * (0 : Int32).toInt; have k_0 : (0 : Int32).toInt = 0 := (by decide +kernel); omega), (SGT_nil (by decide +kernel)), (SGT_nil (by decide +kernel))⟩ (by have k_0 : (0 : Int32).toInt = 0 := (by decide +kernel); omega) hw24 (lv_sub hl27 [0, 1, 2] rfl)
      · skip
        have hc_26 := nleE (a := 16) (b := x_18.toInt) (by decide +kernel) rfl c_26
        refine lv_aload_n (pc := 32) E.1 E.2.1 dX12_keepsLaw_32 rfl (lv_at hl25 1 rfl) ?_
        refine x_get (pc := 33) (T := TX12) (N := 70) (ci := 12) (v := .ref (mr 28)) E hw24 inX12 0 28 q_1427 rfl rfl (by decide) rfl rfl dX12_keepsLaw_33 ?_
        refine lv_iload_n (pc := 36) E.1 E.2.1 dX12_keepsLaw_36 rfl (lv_at hl25 0 rfl) ?_
        refine lv_aload_n (pc := 37) E.1 E.2.1 dX12_keepsLaw_37 rfl (lv_at hl25 1 rfl) ?_
        refine lv_aload_n (pc := 38) E.1 E.2.1 dX12_keepsLaw_38 rfl (lv_at hl25 1 rfl) ?_
        refine x_get (pc := 39) (T := TX12) (N := 70) (ci := 12) (v := .ref (mr 28)) E hw24 inX12 0 28 q_1427 rfl rfl (by decide) rfl rfl dX12_keepsLaw_39 ?_
        refine lv_iload_n (pc := 42) E.1 E.2.1 dX12_keepsLaw_42 rfl (lv_at hl25 0 rfl) ?_
        refine x_iald (pc := 43) (f := g_20) E hw24 15 rfl (inbE (a := x_18.toInt) rfl (by omega)) dX12_keepsLaw_43 ?_
        refine lv_topi (fun v_59 ev_59 => ?_)
        refine cm_i (pc := 44) hw24 (rn_M (As := [.int v_59]) (rest := [.int x_18, .ref (mr 28)]) E hw24 (s_kept0 l D cI cJ _ M mr (upd mi 68 x_19) (va_up (va_up (va_up (va_up mf 27 g_12) 28 g_20) 29 g_21) 30 g_22) mg v_59 h0 (by show 0 ≤ x_19.toInt ∧ x_19.toInt ≤ 3599; omega)) (gdV q_2125 q_2127 q_146 q_162 q_2128) hdV_X12_kept ⟨rfl, rfl⟩ ⟨(Nat.le_of_ble_eq_true rfl), (Nat.le_of_ble_eq_true rfl)⟩ ⟨(Nat.le_of_ble_eq_true rfl), (Nat.le_of_ble_eq_true rfl)⟩ 12 rfl rfl rfl rfl hl25.1 rfl (Nat.le_of_ble_eq_true rfl) dX12_keepsLaw_44) (fun r_61 u_60 H1 locs hp hw62 => ?_)
        obtain ⟨nkeptAt_63, rfl⟩ : ∃ z, z = u_60 := ⟨_, rfl⟩
        generalize H1 = H at hw62 ⊢
        have hw64 : WD D A s.heap (MW cI cJ M mr (upd mi 68 nkeptAt_63) (va_up (va_up (va_up (va_up mf 27 g_12) 28 g_20) 29 g_21) 30 g_22) mg) H locs := hw62
        obtain ⟨hp_65, hp_66⟩ := hp
        have hp_65 : nkeptAt_63.toInt = x_19.toInt + 1 := hp_65
        have hp_66 : r_61 = (mf 69) (x_19).toNatClampNeg := hp_66
        have er_61 := hp_66
        refine x_iastG (pc := 47) (f := g_20) (wf := fun g => (MW cI cJ M mr (upd mi 68 nkeptAt_63) (va_up (va_up (va_up (va_up mf 27 g_12) 28 g) 29 g_21) 30 g_22) mg)) E hw64 15 rfl (inbE (a := x_18.toInt) rfl (by omega)) (fun _ => rfl) dX12_keepsLaw_47 (fun g_67 H locs eg_67 hw68 => ?_)
        refine lv_aload_n (pc := 48) E.1 E.2.1 dX12_keepsLaw_48 rfl (lv_at hl25 1 rfl) ?_
        refine x_get (pc := 49) (T := TX12) (N := 70) (ci := 12) (v := .ref (mr 29)) E hw68 inX12 0 29 q_1428 rfl rfl (by decide) rfl rfl dX12_keepsLaw_49 ?_
        refine lv_iload_n (pc := 52) E.1 E.2.1 dX12_keepsLaw_52 rfl (lv_at hl25 0 rfl) ?_
        refine lv_aload_n (pc := 53) E.1 E.2.1 dX12_keepsLaw_53 rfl (lv_at hl25 1 rfl) ?_
        refine lv_aload_n (pc := 54) E.1 E.2.1 dX12_keepsLaw_54 rfl (lv_at hl25 1 rfl) ?_
        refine x_get (pc := 55) (T := TX12) (N := 70) (ci := 12) (v := .ref (mr 29)) E hw68 inX12 0 29 q_1428 rfl rfl (by decide) rfl rfl dX12_keepsLaw_55 ?_
        refine lv_iload_n (pc := 58) E.1 E.2.1 dX12_keepsLaw_58 rfl (lv_at hl25 0 rfl) ?_
        refine x_iald (pc := 59) (f := g_21) E hw68 16 rfl (inbE (a := x_18.toInt) rfl (by omega)) dX12_keepsLaw_59 ?_
        refine lv_topi (fun v_69 ev_69 => ?_)
        refine cm_i (pc := 60) hw68 (rn_M (As := [.int v_69]) (rest := [.int x_18, .ref (mr 29)]) E hw68 (s_kept0 l D cI cJ _ M mr (upd mi 68 nkeptAt_63) (va_up (va_up (va_up (va_up mf 27 g_12) 28 g_67) 29 g_21) 30 g_22) mg v_69 h0 (by show 0 ≤ nkeptAt_63.toInt ∧ nkeptAt_63.toInt ≤ 3599; omega)) (gdV q_2125 q_2127 q_146 q_162 q_2128) hdV_X12_kept ⟨rfl, rfl⟩ ⟨(Nat.le_of_ble_eq_true rfl), (Nat.le_of_ble_eq_true rfl)⟩ ⟨(Nat.le_of_ble_eq_true rfl), (Nat.le_of_ble_eq_true rfl)⟩ 12 rfl rfl rfl rfl hl25.1 rfl (Nat.le_of_ble_eq_true rfl) dX12_keepsLaw_60) (fun r_71 u_70 H1 locs hp hw72 => ?_)
        obtain ⟨nkeptAt_73, rfl⟩ : ∃ z, z = u_70 := ⟨_, rfl⟩
        generalize H1 = H at hw72 ⊢
        have hw74 : WD D A s.heap (MW cI cJ M mr (upd mi 68 nkeptAt_73) (va_up (va_up (va_up (va_up mf 27 g_12) 28 g_67) 29 g_21) 30 g_22) mg) H locs := hw72
        obtain ⟨hp_75, hp_76⟩ := hp
        have hp_75 : nkeptAt_73.toInt = nkeptAt_63.toInt + 1 := hp_75
        have hp_76 : r_71 = (mf 69) (nkeptAt_63).toNatClampNeg := hp_76
        have er_71 := hp_76
        refine x_iastG (pc := 63) (f := g_21) (wf := fun g => (MW cI cJ M mr (upd mi 68 nkeptAt_73) (va_up (va_up (va_up (va_up mf 27 g_12) 28 g_67) 29 g) 30 g_22) mg)) E hw74 16 rfl (inbE (a := x_18.toInt) rfl (by omega)) (fun _ => rfl) dX12_keepsLaw_63 (fun g_77 H locs eg_77 hw78 => ?_)
        refine lv_aload_n (pc := 64) E.1 E.2.1 dX12_keepsLaw_64 rfl (lv_at hl25 1 rfl) ?_
        refine x_get (pc := 65) (T := TX12) (N := 70) (ci := 12) (v := .ref (mr 30)) E hw78 inX12 0 30 q_1429 rfl rfl (by decide) rfl rfl dX12_keepsLaw_65 ?_
        refine lv_iload_n (pc := 68) E.1 E.2.1 dX12_keepsLaw_68 rfl (lv_at hl25 0 rfl) ?_
        refine lv_aload_n (pc := 69) E.1 E.2.1 dX12_keepsLaw_69 rfl (lv_at hl25 1 rfl) ?_
        refine lv_aload_n (pc := 70) E.1 E.2.1 dX12_keepsLaw_70 rfl (lv_at hl25 1 rfl) ?_
        refine x_get (pc := 71) (T := TX12) (N := 70) (ci := 12) (v := .ref (mr 30)) E hw78 inX12 0 30 q_1429 rfl rfl (by decide) rfl rfl dX12_keepsLaw_71 ?_
        refine lv_iload_n (pc := 74) E.1 E.2.1 dX12_keepsLaw_74 rfl (lv_at hl25 0 rfl) ?_
        refine x_iald (pc := 75) (f := g_22) E hw78 17 rfl (inbE (a := x_18.toInt) rfl (by omega)) dX12_keepsLaw_75 ?_
        refine lv_topi (fun v_79 ev_79 => ?_)
        refine cm_i (pc := 76) hw78 (rn_M (As := [.int v_79]) (rest := [.int x_18, .ref (mr 30)]) E hw78 (s_kept0 l D cI cJ _ M mr (upd mi 68 nkeptAt_73) (va_up (va_up (va_up (va_up mf 27 g_12) 28 g_67) 29 g_77) 30 g_22) mg v_79 h0 (by show 0 ≤ nkeptAt_73.toInt ∧ nkeptAt_73.toInt ≤ 3599; omega)) (gdV q_2125 q_2127 q_146 q_162 q_2128) hdV_X12_kept ⟨rfl, rfl⟩ ⟨(Nat.le_of_ble_eq_true rfl), (Nat.le_of_ble_eq_true rfl)⟩ ⟨(Nat.le_of_ble_eq_true rfl), (Nat.le_of_ble_eq_true rfl)⟩ 12 rfl rfl rfl rfl hl25.1 rfl (Nat.le_of_ble_eq_true rfl) dX12_keepsLaw_76) (fun r_81 u_80 H1 locs hp hw82 => ?_)
        obtain ⟨nkeptAt_83, rfl⟩ : ∃ z, z = u_80 := ⟨_, rfl⟩
        generalize H1 = H at hw82 ⊢
        have hw84 : WD D A s.heap (MW cI cJ M mr (upd mi 68 nkeptAt_83) (va_up (va_up (va_up (va_up mf 27 g_12) 28 g_67) 29 g_77) 30 g_22) mg) H locs := hw82
        obtain ⟨hp_85, hp_86⟩ := hp
        have hp_85 : nkeptAt_83.toInt = nkeptAt_73.toInt + 1 := hp_85
        have hp_86 : r_81 = (mf 69) (nkeptAt_73).toNatClampNeg := hp_86
        have er_81 := hp_86
        refine x_iastG (pc := 79) (f := g_22) (wf := fun g => (MW cI cJ M mr (upd mi 68 nkeptAt_83) (va_up (va_up (va_up (va_up mf 27 g_12) 28 g_67) 29 g_77) 30 g) mg)) E hw84 17 rfl (inbE (a := x_18.toInt) rfl (by omega)) (fun _ => rfl) dX12_keepsLaw_79 (fun g_87 H locs eg_87 hw88 => ?_)
        obtain ⟨v_89, ev_89⟩ : ∃ z : Int32, x_18 + Int32.ofInt (1) = z := ⟨_, rfl⟩
        have hv_89 : v_89.toInt = x_18.toInt + (1) := by rw [← ev_89]; exact incE rfl (by decide) (by omega)
        refine lv_iinc (pc := 80) (v := v_89) (lv' := [(2, .int v_89), (0, .ref M), (1, .int 0)]) E.1 E.2.1 dX12_keepsLaw_80 hl25 (k := 0) rfl ev_89 (by decide) rfl (fun ls hl90 => ?_)
        refine lv_goto (pc := 83) (tgt := 21) E.1 E.2.1 dX12_keepsLaw_83 (by decide) ?_
        exact ih_23 v_89 nkeptAt_83 g_67 g_77 g_87 _ _ _ ⟨(by show 0 ≤ v_89.toInt; omega), (by show v_89.toInt ≤ 16; omega), (by show nkeptAt_83.toInt = 1452 + 3 * v_89.toInt; omega), (SGT_row hi_22_3 eg_67 (by omega) (by omega) er_61 (by omega) (m := v_89.toInt) (by omega)), (SGT_row hi_22_4 eg_77 (by omega) (by omega) er_71 (by omega) (m := v_89.toInt) (by omega)), (SGT_row hi_22_5 eg_87 (by omega) (by omega) er_81 (by omega) (m := v_89.toInt) (by omega))⟩ (by omega) hw88 (lv_sub hl90 [0, 1, 2] rfl)
  exact loop_17 (Int.toNat (16 - 0) + 1) 0 nkeptAt_8 (mf 28) (mf 29) (mf 30) _ _ _ ⟨(by show 0 ≤ (0 : Int32).toInt; have k_0 : (0 : Int32).toInt = 0 := (by decide +kernel); omega), (by show (0 : Int32).toInt ≤ 16; have k_0 : (0 : Int32).toInt = 0 := (by decide +kernel); omega), (by show nkeptAt_8.toInt = 1452 + 3 * (0 : Int32).toInt; have k_0 : (0 : Int32).toInt = 0 := (by decide +kernel); omega), (SGT_nil (by decide +kernel)), (SGT_nil (by decide +kernel)), (SGT_nil (by decide +kernel))⟩ (by have k_0 : (0 : Int32).toInt = 0 := (by decide +kernel); omega) hw13 (lv_sub hl16 [0, 1, 2] rfl)

set_option maxHeartbeats 4000000 in
set_option maxRecDepth 100000 in
theorem s_keepsLaw1_0 (l : Launch) (D : va_G) (cI cJ : ClassId) (sz M : Nat) (mr : Nat → Nat) (mi : Nat → Int32) (mf : Nat → Nat → Int32) (mg : Nat → Nat → Int64)  (h0 : (mi 66).toInt = 0) (h1 : (mi 68).toInt = 2300) : Met l yX12_keepsLaw (Cond.code yX12_keepsLaw cX12_keepsLaw 3 none :: GW) ({ frames := 2, cells := 0, slots := 0, locals := 61 } : Room) (va_Pc [.ref M, .int 1] (PW D cI cJ sz (MW cI cJ M mr mi mf mg) xT)) (va_Qv (fun (u : Int32 × (Nat → Int32) × (Nat → Int32) × (Nat → Int32) × (Nat → Int32) × (Nat → Int32) × (Nat → Int32)) => (u.1.toInt = 3149) ∧ ((u.2.1 0).toInt = ((mf 27) 0).toInt) ∧ (LT0 2300 16 400 (mf 31) (mf 32) (mf 28) (mf 29) (mf 30) u.2.2.2.2.2.1 u.2.2.2.2.2.2 u.2.2.1 u.2.2.2.1 u.2.2.2.2.1 (mf 69) (u.2.1 1).toInt)) (fun u => QW D cI cJ (va_A (MW cI cJ M mr mi mf mg) sz) ((fun (u : Int32 × (Nat → Int32) × (Nat → Int32) × (Nat → Int32) × (Nat → Int32) × (Nat → Int32) × (Nat → Int32)) => (MW cI cJ M mr (upd mi 68 u.1) (va_up (va_up (va_up (va_up (va_up (va_up mf 27 u.2.1) 28 u.2.2.1) 29 u.2.2.2.1) 30 u.2.2.2.2.1) 31 u.2.2.2.2.2.1) 32 u.2.2.2.2.2.2) mg)) u)) (va_A (MW cI cJ M mr mi mf mg) sz)) 0 0 (va_A (MW cI cJ M mr mi mf mg) sz) := by
  refine mk_met (y := yX12_keepsLaw) (bytes := cX12_keepsLaw) (maxL := 3) (avs := [.ref M, .int 1]) (WS := (MW cI cJ M mr mi mf mg)) (Qf := fun A => va_Qv (fun (u : Int32 × (Nat → Int32) × (Nat → Int32) × (Nat → Int32) × (Nat → Int32) × (Nat → Int32) × (Nat → Int32)) => (u.1.toInt = 3149) ∧ ((u.2.1 0).toInt = ((mf 27) 0).toInt) ∧ (LT0 2300 16 400 (mf 31) (mf 32) (mf 28) (mf 29) (mf 30) u.2.2.2.2.2.1 u.2.2.2.2.2.2 u.2.2.1 u.2.2.2.1 u.2.2.2.2.1 (mf 69) (u.2.1 1).toInt)) (fun u => QW D cI cJ A ((fun (u : Int32 × (Nat → Int32) × (Nat → Int32) × (Nat → Int32) × (Nat → Int32) × (Nat → Int32) × (Nat → Int32)) => (MW cI cJ M mr (upd mi 68 u.1) (va_up (va_up (va_up (va_up (va_up (va_up mf 27 u.2.1) 28 u.2.2.1) 29 u.2.2.2.1) 30 u.2.2.2.2.1) 31 u.2.2.2.2.2.1) 32 u.2.2.2.2.2.2) mg)) u)) A) (by decide) (Nat.le_of_ble_eq_true rfl) ?_
  intro p e s m below meth c A ls E hr hlk hnm hX hw1 hl2
  have hl3 : lv_has ls 3 [(0, .ref M), (1, .int 1)] := hl2
  refine lv_aload_n (pc := 0) E.1 E.2.1 dX12_keepsLaw_0 rfl (lv_at hl3 0 rfl) ?_
  refine x_get (pc := 1) (T := TX12) (N := 70) (ci := 12) (v := .ref (mr 27)) E hw1 inX12 0 27 q_1426 rfl rfl (by decide) rfl rfl dX12_keepsLaw_1 ?_
  refine lv_iload_n (pc := 4) E.1 E.2.1 dX12_keepsLaw_4 rfl (lv_at hl3 1 rfl) ?_
  refine lv_aload_n (pc := 5) E.1 E.2.1 dX12_keepsLaw_5 rfl (lv_at hl3 0 rfl) ?_
  refine lv_aload_n (pc := 6) E.1 E.2.1 dX12_keepsLaw_6 rfl (lv_at hl3 0 rfl) ?_
  refine x_get (pc := 7) (T := TX12) (N := 70) (ci := 12) (v := .ref (mr 27)) E hw1 inX12 0 27 q_1426 rfl rfl (by decide) rfl rfl dX12_keepsLaw_7 ?_
  refine lv_iload_n (pc := 10) E.1 E.2.1 dX12_keepsLaw_10 rfl (lv_at hl3 1 rfl) ?_
  refine x_iald (pc := 11) (f := (mf 27)) E hw1 14 rfl (inbE (a := 1) (by decide +kernel) (by omega)) dX12_keepsLaw_11 ?_
  refine lv_topi (fun v_4 ev_4 => ?_)
  have hv_4 : v_4.toInt = ((mf 27) 1).toInt := by rw [ev_4]; rfl
  refine cm_i (pc := 12) hw1 (rn_M (As := [.int v_4]) (rest := [.int 1, .ref (mr 27)]) E hw1 (s_kept0 l D cI cJ _ M mr mi mf mg v_4 h0 (by show 0 ≤ (mi 68).toInt ∧ (mi 68).toInt ≤ 3599; omega)) (gdV q_2125 q_2127 q_146 q_162 q_2128) hdV_X12_kept ⟨rfl, rfl⟩ ⟨(Nat.le_of_ble_eq_true rfl), (Nat.le_of_ble_eq_true rfl)⟩ ⟨(Nat.le_of_ble_eq_true rfl), (Nat.le_of_ble_eq_true rfl)⟩ 12 rfl rfl rfl rfl hl3.1 rfl (Nat.le_of_ble_eq_true rfl) dX12_keepsLaw_12) (fun r_6 u_5 H1 locs hp hw7 => ?_)
  obtain ⟨nkeptAt_8, rfl⟩ : ∃ z, z = u_5 := ⟨_, rfl⟩
  generalize H1 = H at hw7 ⊢
  have hw9 : WD D A s.heap (MW cI cJ M mr (upd mi 68 nkeptAt_8) mf mg) H locs := hw7
  obtain ⟨hp_10, hp_11⟩ := hp
  have hp_10 : nkeptAt_8.toInt = (mi 68).toInt + 1 := hp_10
  have hp_11 : r_6 = (mf 69) ((mi 68)).toNatClampNeg := hp_11
  have er_6 := hp_11
  refine x_iastG (pc := 15) (f := (mf 27)) (wf := fun g => (MW cI cJ M mr (upd mi 68 nkeptAt_8) (va_up mf 27 g) mg)) E hw9 14 rfl (inbE (a := 1) (by decide +kernel) (by omega)) (fun _ => rfl) dX12_keepsLaw_15 (fun g_12 H locs eg_12 hw13 => ?_)
  have ht_14 : (g_12 0).toInt = ((mf 27) 0).toInt := by rw [eg_12]; rfl
  have ht_15 : (g_12 1).toInt = (r_6 : Int32).toInt := by rw [eg_12]; rfl
  refine lv_bipush (pc := 16) (v := 16) E.1 E.2.1 dX12_keepsLaw_16 (by decide +kernel) ?_
  refine lv_iload_n (pc := 18) E.1 E.2.1 dX12_keepsLaw_18 rfl (lv_at hl3 1 rfl) ?_
  refine lv_imul (pc := 19) E.1 E.2.1 dX12_keepsLaw_19 ?_
  refine tI (y := 16) (by decide +kernel) ?_
  refine lv_istore_n (pc := 20) (lv' := [(2, .int 16), (0, .ref M), (1, .int 1)]) E.1 E.2.1 dX12_keepsLaw_20 rfl hl3 (by decide) rfl (fun ls hl16 => ?_)
  have loop_17 : ∀ (k : Nat) (x_18 : Int32) (x_19 : Int32) (g_20 : Nat → Int32) (g_21 : Nat → Int32) (g_22 : Nat → Int32) (H : Heap) (locs : List Loc) (ls : Array Slot), (16 ≤ x_18.toInt) ∧ (x_18.toInt ≤ 32) ∧ (x_19.toInt = 2253 + 3 * x_18.toInt) ∧ (SGT (mf 69) g_20 16 2301 3 (x_18.toInt - 16)) ∧ (FRM (mf 28) g_20 16) ∧ (SGT (mf 69) g_21 16 2302 3 (x_18.toInt - 16)) ∧ (FRM (mf 29) g_21 16) ∧ (SGT (mf 69) g_22 16 2303 3 (x_18.toInt - 16)) ∧ (FRM (mf 30) g_22 16) → 32 - x_18.toInt < (k : Int) → WD D A s.heap (MW cI cJ M mr (upd mi 68 x_19) (va_up (va_up (va_up (va_up mf 27 g_12) 28 g_20) 29 g_21) 30 g_22) mg) H locs → lv_has ls 3 [(2, .int x_18), (0, .ref M), (1, .int 1)] → W p l e ({ frames := 2, cells := 0, slots := 0, locals := 61 } : Room) s m ([.ref M, .int 1] : List Value).toArray below meth c H locs 0 0 (MQ below (va_Qv (fun (u : Int32 × (Nat → Int32) × (Nat → Int32) × (Nat → Int32) × (Nat → Int32) × (Nat → Int32) × (Nat → Int32)) => (u.1.toInt = 3149) ∧ ((u.2.1 0).toInt = ((mf 27) 0).toInt) ∧ (LT0 2300 16 400 (mf 31) (mf 32) (mf 28) (mf 29) (mf 30) u.2.2.2.2.2.1 u.2.2.2.2.2.2 u.2.2.1 u.2.2.2.1 u.2.2.2.2.1 (mf 69) (u.2.1 1).toInt)) (fun u => QW D cI cJ A ((fun (u : Int32 × (Nat → Int32) × (Nat → Int32) × (Nat → Int32) × (Nat → Int32) × (Nat → Int32) × (Nat → Int32)) => (MW cI cJ M mr (upd mi 68 u.1) (va_up (va_up (va_up (va_up (va_up (va_up mf 27 u.2.1) 28 u.2.2.1) 29 u.2.2.2.1) 30 u.2.2.2.2.1) 31 u.2.2.2.2.2.1) 32 u.2.2.2.2.2.2) mg)) u)) A) ([.ref M, .int 1] : List Value).toArray s 0 0 A) (F0 m 21 ls []) := by
    intro k
    induction k with
    | zero =>
      intro x_18 x_19 g_20 g_21 g_22 _ _ _ hinv hm
      obtain ⟨hi_22_0, hi_22_1, hi_22_2, hi_22_3, hi_22_4, hi_22_5, hi_22_6, hi_22_7, hi_22_8⟩ := hinv
      exact absurd hm (by omega)
    | succ k ih_23 =>
      intro x_18 x_19 g_20 g_21 g_22 H locs ls hinv hm hw24 hl25
      obtain ⟨hi_22_0, hi_22_1, hi_22_2, hi_22_3, hi_22_4, hi_22_5, hi_22_6, hi_22_7, hi_22_8⟩ := hinv
      refine lv_iload_n (pc := 21) E.1 E.2.1 dX12_keepsLaw_21 rfl (lv_at hl25 0 rfl) ?_
      refine lv_bipush (pc := 22) (v := 16) E.1 E.2.1 dX12_keepsLaw_22 (by decide +kernel) ?_
      refine lv_iload_n (pc := 24) E.1 E.2.1 dX12_keepsLaw_24 rfl (lv_at hl25 2 rfl) ?_
      refine lv_imul (pc := 25) E.1 E.2.1 dX12_keepsLaw_25 ?_
      refine tI (y := 16) (by decide +kernel) ?_
      refine lv_bipush (pc := 26) (v := 16) E.1 E.2.1 dX12_keepsLaw_26 (by decide +kernel) ?_
      refine lv_iadd (pc := 28) E.1 E.2.1 dX12_keepsLaw_28 ?_
      refine tI (y := 32) (by decide +kernel) ?_
      refine lv_icmp_ge (pc := 29) (tgt := 86) E.1 E.2.1 dX12_keepsLaw_29 (by decide) (fun c_26 => ?_) (fun c_26 => ?_)
      · skip
        have hc_26 := leE (a := 32) (b := x_18.toInt) (by decide +kernel) rfl c_26
        refine lv_sipush (pc := 86) (v := 400) E.1 E.2.1 dX12_keepsLaw_86 (by decide +kernel) ?_
        refine lv_iload_n (pc := 89) E.1 E.2.1 dX12_keepsLaw_89 rfl (lv_at hl25 2 rfl) ?_
        refine lv_imul (pc := 90) E.1 E.2.1 dX12_keepsLaw_90 ?_
        refine tI (y := 400) (by decide +kernel) ?_
        refine lv_istore_n (pc := 91) (lv' := [(2, .int 400), (0, .ref M), (1, .int 1)]) E.1 E.2.1 dX12_keepsLaw_91 rfl hl25 (by decide) rfl (fun ls hl27 => ?_)
        have loop_28 : ∀ (k : Nat) (x_29 : Int32) (x_30 : Int32) (g_31 : Nat → Int32) (g_32 : Nat → Int32) (H : Heap) (locs : List Loc) (ls : Array Slot), (400 ≤ x_29.toInt) ∧ (x_29.toInt ≤ 800) ∧ (x_30.toInt = 1549 + 2 * x_29.toInt) ∧ (SGT (mf 69) g_31 400 2349 2 (x_29.toInt - 400)) ∧ (FRM (mf 31) g_31 400) ∧ (SGT (mf 69) g_32 400 2350 2 (x_29.toInt - 400)) ∧ (FRM (mf 32) g_32 400) → 800 - x_29.toInt < (k : Int) → WD D A s.heap (MW cI cJ M mr (upd mi 68 x_30) (va_up (va_up (va_up (va_up (va_up (va_up mf 27 g_12) 28 g_20) 29 g_21) 30 g_22) 31 g_31) 32 g_32) mg) H locs → lv_has ls 3 [(2, .int x_29), (0, .ref M), (1, .int 1)] → W p l e ({ frames := 2, cells := 0, slots := 0, locals := 61 } : Room) s m ([.ref M, .int 1] : List Value).toArray below meth c H locs 0 0 (MQ below (va_Qv (fun (u : Int32 × (Nat → Int32) × (Nat → Int32) × (Nat → Int32) × (Nat → Int32) × (Nat → Int32) × (Nat → Int32)) => (u.1.toInt = 3149) ∧ ((u.2.1 0).toInt = ((mf 27) 0).toInt) ∧ (LT0 2300 16 400 (mf 31) (mf 32) (mf 28) (mf 29) (mf 30) u.2.2.2.2.2.1 u.2.2.2.2.2.2 u.2.2.1 u.2.2.2.1 u.2.2.2.2.1 (mf 69) (u.2.1 1).toInt)) (fun u => QW D cI cJ A ((fun (u : Int32 × (Nat → Int32) × (Nat → Int32) × (Nat → Int32) × (Nat → Int32) × (Nat → Int32) × (Nat → Int32)) => (MW cI cJ M mr (upd mi 68 u.1) (va_up (va_up (va_up (va_up (va_up (va_up mf 27 u.2.1) 28 u.2.2.1) 29 u.2.2.2.1) 30 u.2.2.2.2.1) 31 u.2.2.2.2.2.1) 32 u.2.2.2.2.2.2) mg)) u)) A) ([.ref M, .int 1] : List Value).toArray s 0 0 A) (F0 m 92 ls []) := by
          intro k
          induction k with
          | zero =>
            intro x_29 x_30 g_31 g_32 _ _ _ hinv hm
            obtain ⟨hi_32_0, hi_32_1, hi_32_2, hi_32_3, hi_32_4, hi_32_5, hi_32_6⟩ := hinv
            exact absurd hm (by omega)
          | succ k ih_33 =>
            intro x_29 x_30 g_31 g_32 H locs ls hinv hm hw34 hl35
            obtain ⟨hi_32_0, hi_32_1, hi_32_2, hi_32_3, hi_32_4, hi_32_5, hi_32_6⟩ := hinv
            refine lv_iload_n (pc := 92) E.1 E.2.1 dX12_keepsLaw_92 rfl (lv_at hl35 0 rfl) ?_
            refine lv_sipush (pc := 93) (v := 400) E.1 E.2.1 dX12_keepsLaw_93 (by decide +kernel) ?_
            refine lv_iload_n (pc := 96) E.1 E.2.1 dX12_keepsLaw_96 rfl (lv_at hl35 2 rfl) ?_
            refine lv_imul (pc := 97) E.1 E.2.1 dX12_keepsLaw_97 ?_
            refine tI (y := 400) (by decide +kernel) ?_
            refine lv_sipush (pc := 98) (v := 400) E.1 E.2.1 dX12_keepsLaw_98 (by decide +kernel) ?_
            refine lv_iadd (pc := 101) E.1 E.2.1 dX12_keepsLaw_101 ?_
            refine tI (y := 800) (by decide +kernel) ?_
            refine lv_icmp_ge (pc := 102) (tgt := 143) E.1 E.2.1 dX12_keepsLaw_102 (by decide) (fun c_36 => ?_) (fun c_36 => ?_)
            · skip
              have hc_36 := leE (a := 800) (b := x_29.toInt) (by decide +kernel) rfl c_36
              exact em_v (w1 := (fun (u : Int32 × (Nat → Int32) × (Nat → Int32) × (Nat → Int32) × (Nat → Int32) × (Nat → Int32) × (Nat → Int32)) => (MW cI cJ M mr (upd mi 68 u.1) (va_up (va_up (va_up (va_up (va_up (va_up mf 27 u.2.1) 28 u.2.2.1) 29 u.2.2.2.1) 30 u.2.2.2.2.1) 31 u.2.2.2.2.2.1) 32 u.2.2.2.2.2.2) mg))) E hr hlk (x_30, g_12, g_20, g_21, g_22, g_31, g_32) hw34 ⟨(by show x_30.toInt = 3149; omega), (by show (g_12 0).toInt = ((mf 27) 0).toInt; omega), (show LT0 2300 16 400 (mf 31) (mf 32) (mf 28) (mf 29) (mf 30) g_31 g_32 g_20 g_21 g_22 (mf 69) (g_12 1).toInt from ⟨(by have q : g_12 1 = r_6 := us1 (j := 1) eg_12 (by decide +kernel) (by decide +kernel); rw [q, er_6, atI (p := 2300) (by omega)]), ⟨SGT_n hi_22_3 (by omega), hi_22_4⟩, ⟨SGT_n hi_22_5 (by omega), hi_22_6⟩, ⟨SGT_n hi_22_7 (by omega), hi_22_8⟩, ⟨SGT_n hi_32_3 (by omega), hi_32_4⟩, ⟨SGT_n hi_32_5 (by omega), hi_32_6⟩⟩)⟩ (Nat.le_of_ble_eq_true rfl) (Nat.le_of_ble_eq_true rfl) dX12_keepsLaw_143
            · skip
              have hc_36 := nleE (a := 800) (b := x_29.toInt) (by decide +kernel) rfl c_36
              refine lv_aload_n (pc := 105) E.1 E.2.1 dX12_keepsLaw_105 rfl (lv_at hl35 1 rfl) ?_
              refine x_get (pc := 106) (T := TX12) (N := 70) (ci := 12) (v := .ref (mr 31)) E hw34 inX12 0 31 q_1430 rfl rfl (by decide) rfl rfl dX12_keepsLaw_106 ?_
              refine lv_iload_n (pc := 109) E.1 E.2.1 dX12_keepsLaw_109 rfl (lv_at hl35 0 rfl) ?_
              refine lv_aload_n (pc := 110) E.1 E.2.1 dX12_keepsLaw_110 rfl (lv_at hl35 1 rfl) ?_
              refine lv_aload_n (pc := 111) E.1 E.2.1 dX12_keepsLaw_111 rfl (lv_at hl35 1 rfl) ?_
              refine x_get (pc := 112) (T := TX12) (N := 70) (ci := 12) (v := .ref (mr 31)) E hw34 inX12 0 31 q_1430 rfl rfl (by decide) rfl rfl dX12_keepsLaw_112 ?_
              refine lv_iload_n (pc := 115) E.1 E.2.1 dX12_keepsLaw_115 rfl (lv_at hl35 0 rfl) ?_
              refine x_iald (pc := 116) (f := g_31) E hw34 18 rfl (inbE (a := x_29.toInt) rfl (by omega)) dX12_keepsLaw_116 ?_
              refine lv_topi (fun v_37 ev_37 => ?_)
              refine cm_i (pc := 117) hw34 (rn_M (As := [.int v_37]) (rest := [.int x_29, .ref (mr 31)]) E hw34 (s_kept0 l D cI cJ _ M mr (upd mi 68 x_30) (va_up (va_up (va_up (va_up (va_up (va_up mf 27 g_12) 28 g_20) 29 g_21) 30 g_22) 31 g_31) 32 g_32) mg v_37 h0 (by show 0 ≤ x_30.toInt ∧ x_30.toInt ≤ 3599; omega)) (gdV q_2125 q_2127 q_146 q_162 q_2128) hdV_X12_kept ⟨rfl, rfl⟩ ⟨(Nat.le_of_ble_eq_true rfl), (Nat.le_of_ble_eq_true rfl)⟩ ⟨(Nat.le_of_ble_eq_true rfl), (Nat.le_of_ble_eq_true rfl)⟩ 12 rfl rfl rfl rfl hl35.1 rfl (Nat.le_of_ble_eq_true rfl) dX12_keepsLaw_117) (fun r_39 u_38 H1 locs hp hw40 => ?_)
              obtain ⟨nkeptAt_41, rfl⟩ : ∃ z, z = u_38 := ⟨_, rfl⟩
              generalize H1 = H at hw40 ⊢
              have hw42 : WD D A s.heap (MW cI cJ M mr (upd mi 68 nkeptAt_41) (va_up (va_up (va_up (va_up (va_up (va_up mf 27 g_12) 28 g_20) 29 g_21) 30 g_22) 31 g_31) 32 g_32) mg) H locs := hw40
              obtain ⟨hp_43, hp_44⟩ := hp
              have hp_43 : nkeptAt_41.toInt = x_30.toInt + 1 := hp_43
              have hp_44 : r_39 = (mf 69) (x_30).toNatClampNeg := hp_44
              have er_39 := hp_44
              refine x_iastG (pc := 120) (f := g_31) (wf := fun g => (MW cI cJ M mr (upd mi 68 nkeptAt_41) (va_up (va_up (va_up (va_up (va_up (va_up mf 27 g_12) 28 g_20) 29 g_21) 30 g_22) 31 g) 32 g_32) mg)) E hw42 18 rfl (inbE (a := x_29.toInt) rfl (by omega)) (fun _ => rfl) dX12_keepsLaw_120 (fun g_45 H locs eg_45 hw46 => ?_)
              refine lv_aload_n (pc := 121) E.1 E.2.1 dX12_keepsLaw_121 rfl (lv_at hl35 1 rfl) ?_
              refine x_get (pc := 122) (T := TX12) (N := 70) (ci := 12) (v := .ref (mr 32)) E hw46 inX12 0 32 q_1431 rfl rfl (by decide) rfl rfl dX12_keepsLaw_122 ?_
              refine lv_iload_n (pc := 125) E.1 E.2.1 dX12_keepsLaw_125 rfl (lv_at hl35 0 rfl) ?_
              refine lv_aload_n (pc := 126) E.1 E.2.1 dX12_keepsLaw_126 rfl (lv_at hl35 1 rfl) ?_
              refine lv_aload_n (pc := 127) E.1 E.2.1 dX12_keepsLaw_127 rfl (lv_at hl35 1 rfl) ?_
              refine x_get (pc := 128) (T := TX12) (N := 70) (ci := 12) (v := .ref (mr 32)) E hw46 inX12 0 32 q_1431 rfl rfl (by decide) rfl rfl dX12_keepsLaw_128 ?_
              refine lv_iload_n (pc := 131) E.1 E.2.1 dX12_keepsLaw_131 rfl (lv_at hl35 0 rfl) ?_
              refine x_iald (pc := 132) (f := g_32) E hw46 19 rfl (inbE (a := x_29.toInt) rfl (by omega)) dX12_keepsLaw_132 ?_
              refine lv_topi (fun v_47 ev_47 => ?_)
              refine cm_i (pc := 133) hw46 (rn_M (As := [.int v_47]) (rest := [.int x_29, .ref (mr 32)]) E hw46 (s_kept0 l D cI cJ _ M mr (upd mi 68 nkeptAt_41) (va_up (va_up (va_up (va_up (va_up (va_up mf 27 g_12) 28 g_20) 29 g_21) 30 g_22) 31 g_45) 32 g_32) mg v_47 h0 (by show 0 ≤ nkeptAt_41.toInt ∧ nkeptAt_41.toInt ≤ 3599; omega)) (gdV q_2125 q_2127 q_146 q_162 q_2128) hdV_X12_kept ⟨rfl, rfl⟩ ⟨(Nat.le_of_ble_eq_true rfl), (Nat.le_of_ble_eq_true rfl)⟩ ⟨(Nat.le_of_ble_eq_true rfl), (Nat.le_of_ble_eq_true rfl)⟩ 12 rfl rfl rfl rfl hl35.1 rfl (Nat.le_of_ble_eq_true rfl) dX12_keepsLaw_133) (fun r_49 u_48 H1 locs hp hw50 => ?_)
              obtain ⟨nkeptAt_51, rfl⟩ : ∃ z, z = u_48 := ⟨_, rfl⟩
              generalize H1 = H at hw50 ⊢
              have hw52 : WD D A s.heap (MW cI cJ M mr (upd mi 68 nkeptAt_51) (va_up (va_up (va_up (va_up (va_up (va_up mf 27 g_12) 28 g_20) 29 g_21) 30 g_22) 31 g_45) 32 g_32) mg) H locs := hw50
              obtain ⟨hp_53, hp_54⟩ := hp
              have hp_53 : nkeptAt_51.toInt = nkeptAt_41.toInt + 1 := hp_53
              have hp_54 : r_49 = (mf 69) (nkeptAt_41).toNatClampNeg := hp_54
              have er_49 := hp_54
              refine x_iastG (pc := 136) (f := g_32) (wf := fun g => (MW cI cJ M mr (upd mi 68 nkeptAt_51) (va_up (va_up (va_up (va_up (va_up (va_up mf 27 g_12) 28 g_20) 29 g_21) 30 g_22) 31 g_45) 32 g) mg)) E hw52 19 rfl (inbE (a := x_29.toInt) rfl (by omega)) (fun _ => rfl) dX12_keepsLaw_136 (fun g_55 H locs eg_55 hw56 => ?_)
              obtain ⟨v_57, ev_57⟩ : ∃ z : Int32, x_29 + Int32.ofInt (1) = z := ⟨_, rfl⟩
              have hv_57 : v_57.toInt = x_29.toInt + (1) := by rw [← ev_57]; exact incE rfl (by decide) (by omega)
              refine lv_iinc (pc := 137) (v := v_57) (lv' := [(2, .int v_57), (0, .ref M), (1, .int 1)]) E.1 E.2.1 dX12_keepsLaw_137 hl35 (k := 0) rfl ev_57 (by decide) rfl (fun ls hl58 => ?_)
              refine lv_goto (pc := 140) (tgt := 92) E.1 E.2.1 dX12_keepsLaw_140 (by decide) ?_
              exact ih_33 v_57 nkeptAt_51 g_45 g_55 _ _ _ ⟨(by show 400 ≤ v_57.toInt; omega), (by show v_57.toInt ≤ 800; omega), (by show nkeptAt_51.toInt = 1549 + 2 * v_57.toInt; omega), (SGT_row hi_32_3 eg_45 (by omega) (by omega) er_39 (by omega) (m := (v_57.toInt - 400)) (by omega)), (FRM_put hi_32_4 eg_45 (by omega)), (SGT_row hi_32_5 eg_55 (by omega) (by omega) er_49 (by omega) (m := (v_57.toInt - 400)) (by omega)), (FRM_put hi_32_6 eg_55 (by omega))⟩ (by omega) hw56 (lv_sub hl58 [0, 1, 2] rfl)
        exact loop_28 (Int.toNat (800 - 400) + 1) 400 x_19 (mf 31) (mf 32) _ _ _ ⟨(by show 400 ≤ (400 : Int32).toInt; have k_0 : (400 : Int32).toInt = 400 := (by decide +kernel); omega), (by show (400 : Int32).toInt ≤ 800; have k_0 : (400 : Int32).toInt = 400 := (by decide +kernel); omega), (by show x_19.toInt = 1549 + 2 * (400 : Int32).toInt; have k_0 : (400 : Int32).toInt = 400 := (by decide +kernel); omega), (SGT_nil (by decide +kernel)), FRM_nil, (SGT_nil (by decide +kernel)), FRM_nil⟩ (by have k_0 : (400 : Int32).toInt = 400 := (by decide +kernel); omega) hw24 (lv_sub hl27 [0, 1, 2] rfl)
      · skip
        have hc_26 := nleE (a := 32) (b := x_18.toInt) (by decide +kernel) rfl c_26
        refine lv_aload_n (pc := 32) E.1 E.2.1 dX12_keepsLaw_32 rfl (lv_at hl25 1 rfl) ?_
        refine x_get (pc := 33) (T := TX12) (N := 70) (ci := 12) (v := .ref (mr 28)) E hw24 inX12 0 28 q_1427 rfl rfl (by decide) rfl rfl dX12_keepsLaw_33 ?_
        refine lv_iload_n (pc := 36) E.1 E.2.1 dX12_keepsLaw_36 rfl (lv_at hl25 0 rfl) ?_
        refine lv_aload_n (pc := 37) E.1 E.2.1 dX12_keepsLaw_37 rfl (lv_at hl25 1 rfl) ?_
        refine lv_aload_n (pc := 38) E.1 E.2.1 dX12_keepsLaw_38 rfl (lv_at hl25 1 rfl) ?_
        refine x_get (pc := 39) (T := TX12) (N := 70) (ci := 12) (v := .ref (mr 28)) E hw24 inX12 0 28 q_1427 rfl rfl (by decide) rfl rfl dX12_keepsLaw_39 ?_
        refine lv_iload_n (pc := 42) E.1 E.2.1 dX12_keepsLaw_42 rfl (lv_at hl25 0 rfl) ?_
        refine x_iald (pc := 43) (f := g_20) E hw24 15 rfl (inbE (a := x_18.toInt) rfl (by omega)) dX12_keepsLaw_43 ?_
        refine lv_topi (fun v_59 ev_59 => ?_)
        refine cm_i (pc := 44) hw24 (rn_M (As := [.int v_59]) (rest := [.int x_18, .ref (mr 28)]) E hw24 (s_kept0 l D cI cJ _ M mr (upd mi 68 x_19) (va_up (va_up (va_up (va_up mf 27 g_12) 28 g_20) 29 g_21) 30 g_22) mg v_59 h0 (by show 0 ≤ x_19.toInt ∧ x_19.toInt ≤ 3599; omega)) (gdV q_2125 q_2127 q_146 q_162 q_2128) hdV_X12_kept ⟨rfl, rfl⟩ ⟨(Nat.le_of_ble_eq_true rfl), (Nat.le_of_ble_eq_true rfl)⟩ ⟨(Nat.le_of_ble_eq_true rfl), (Nat.le_of_ble_eq_true rfl)⟩ 12 rfl rfl rfl rfl hl25.1 rfl (Nat.le_of_ble_eq_true rfl) dX12_keepsLaw_44) (fun r_61 u_60 H1 locs hp hw62 => ?_)
        obtain ⟨nkeptAt_63, rfl⟩ : ∃ z, z = u_60 := ⟨_, rfl⟩
        generalize H1 = H at hw62 ⊢
        have hw64 : WD D A s.heap (MW cI cJ M mr (upd mi 68 nkeptAt_63) (va_up (va_up (va_up (va_up mf 27 g_12) 28 g_20) 29 g_21) 30 g_22) mg) H locs := hw62
        obtain ⟨hp_65, hp_66⟩ := hp
        have hp_65 : nkeptAt_63.toInt = x_19.toInt + 1 := hp_65
        have hp_66 : r_61 = (mf 69) (x_19).toNatClampNeg := hp_66
        have er_61 := hp_66
        refine x_iastG (pc := 47) (f := g_20) (wf := fun g => (MW cI cJ M mr (upd mi 68 nkeptAt_63) (va_up (va_up (va_up (va_up mf 27 g_12) 28 g) 29 g_21) 30 g_22) mg)) E hw64 15 rfl (inbE (a := x_18.toInt) rfl (by omega)) (fun _ => rfl) dX12_keepsLaw_47 (fun g_67 H locs eg_67 hw68 => ?_)
        refine lv_aload_n (pc := 48) E.1 E.2.1 dX12_keepsLaw_48 rfl (lv_at hl25 1 rfl) ?_
        refine x_get (pc := 49) (T := TX12) (N := 70) (ci := 12) (v := .ref (mr 29)) E hw68 inX12 0 29 q_1428 rfl rfl (by decide) rfl rfl dX12_keepsLaw_49 ?_
        refine lv_iload_n (pc := 52) E.1 E.2.1 dX12_keepsLaw_52 rfl (lv_at hl25 0 rfl) ?_
        refine lv_aload_n (pc := 53) E.1 E.2.1 dX12_keepsLaw_53 rfl (lv_at hl25 1 rfl) ?_
        refine lv_aload_n (pc := 54) E.1 E.2.1 dX12_keepsLaw_54 rfl (lv_at hl25 1 rfl) ?_
        refine x_get (pc := 55) (T := TX12) (N := 70) (ci := 12) (v := .ref (mr 29)) E hw68 inX12 0 29 q_1428 rfl rfl (by decide) rfl rfl dX12_keepsLaw_55 ?_
        refine lv_iload_n (pc := 58) E.1 E.2.1 dX12_keepsLaw_58 rfl (lv_at hl25 0 rfl) ?_
        refine x_iald (pc := 59) (f := g_21) E hw68 16 rfl (inbE (a := x_18.toInt) rfl (by omega)) dX12_keepsLaw_59 ?_
        refine lv_topi (fun v_69 ev_69 => ?_)
        refine cm_i (pc := 60) hw68 (rn_M (As := [.int v_69]) (rest := [.int x_18, .ref (mr 29)]) E hw68 (s_kept0 l D cI cJ _ M mr (upd mi 68 nkeptAt_63) (va_up (va_up (va_up (va_up mf 27 g_12) 28 g_67) 29 g_21) 30 g_22) mg v_69 h0 (by show 0 ≤ nkeptAt_63.toInt ∧ nkeptAt_63.toInt ≤ 3599; omega)) (gdV q_2125 q_2127 q_146 q_162 q_2128) hdV_X12_kept ⟨rfl, rfl⟩ ⟨(Nat.le_of_ble_eq_true rfl), (Nat.le_of_ble_eq_true rfl)⟩ ⟨(Nat.le_of_ble_eq_true rfl), (Nat.le_of_ble_eq_true rfl)⟩ 12 rfl rfl rfl rfl hl25.1 rfl (Nat.le_of_ble_eq_true rfl) dX12_keepsLaw_60) (fun r_71 u_70 H1 locs hp hw72 => ?_)
        obtain ⟨nkeptAt_73, rfl⟩ : ∃ z, z = u_70 := ⟨_, rfl⟩
        generalize H1 = H at hw72 ⊢
        have hw74 : WD D A s.heap (MW cI cJ M mr (upd mi 68 nkeptAt_73) (va_up (va_up (va_up (va_up mf 27 g_12) 28 g_67) 29 g_21) 30 g_22) mg) H locs := hw72
        obtain ⟨hp_75, hp_76⟩ := hp
        have hp_75 : nkeptAt_73.toInt = nkeptAt_63.toInt + 1 := hp_75
        have hp_76 : r_71 = (mf 69) (nkeptAt_63).toNatClampNeg := hp_76
        have er_71 := hp_76
        refine x_iastG (pc := 63) (f := g_21) (wf := fun g => (MW cI cJ M mr (upd mi 68 nkeptAt_73) (va_up (va_up (va_up (va_up mf 27 g_12) 28 g_67) 29 g) 30 g_22) mg)) E hw74 16 rfl (inbE (a := x_18.toInt) rfl (by omega)) (fun _ => rfl) dX12_keepsLaw_63 (fun g_77 H locs eg_77 hw78 => ?_)
        refine lv_aload_n (pc := 64) E.1 E.2.1 dX12_keepsLaw_64 rfl (lv_at hl25 1 rfl) ?_
        refine x_get (pc := 65) (T := TX12) (N := 70) (ci := 12) (v := .ref (mr 30)) E hw78 inX12 0 30 q_1429 rfl rfl (by decide) rfl rfl dX12_keepsLaw_65 ?_
        refine lv_iload_n (pc := 68) E.1 E.2.1 dX12_keepsLaw_68 rfl (lv_at hl25 0 rfl) ?_
        refine lv_aload_n (pc := 69) E.1 E.2.1 dX12_keepsLaw_69 rfl (lv_at hl25 1 rfl) ?_
        refine lv_aload_n (pc := 70) E.1 E.2.1 dX12_keepsLaw_70 rfl (lv_at hl25 1 rfl) ?_
        refine x_get (pc := 71) (T := TX12) (N := 70) (ci := 12) (v := .ref (mr 30)) E hw78 inX12 0 30 q_1429 rfl rfl (by decide) rfl rfl dX12_keepsLaw_71 ?_
        refine lv_iload_n (pc := 74) E.1 E.2.1 dX12_keepsLaw_74 rfl (lv_at hl25 0 rfl) ?_
        refine x_iald (pc := 75) (f := g_22) E hw78 17 rfl (inbE (a := x_18.toInt) rfl (by omega)) dX12_keepsLaw_75 ?_
        refine lv_topi (fun v_79 ev_79 => ?_)
        refine cm_i (pc := 76) hw78 (rn_M (As := [.int v_79]) (rest := [.int x_18, .ref (mr 30)]) E hw78 (s_kept0 l D cI cJ _ M mr (upd mi 68 nkeptAt_73) (va_up (va_up (va_up (va_up mf 27 g_12) 28 g_67) 29 g_77) 30 g_22) mg v_79 h0 (by show 0 ≤ nkeptAt_73.toInt ∧ nkeptAt_73.toInt ≤ 3599; omega)) (gdV q_2125 q_2127 q_146 q_162 q_2128) hdV_X12_kept ⟨rfl, rfl⟩ ⟨(Nat.le_of_ble_eq_true rfl), (Nat.le_of_ble_eq_true rfl)⟩ ⟨(Nat.le_of_ble_eq_true rfl), (Nat.le_of_ble_eq_true rfl)⟩ 12 rfl rfl rfl rfl hl25.1 rfl (Nat.le_of_ble_eq_true rfl) dX12_keepsLaw_76) (fun r_81 u_80 H1 locs hp hw82 => ?_)
        obtain ⟨nkeptAt_83, rfl⟩ : ∃ z, z = u_80 := ⟨_, rfl⟩
        generalize H1 = H at hw82 ⊢
        have hw84 : WD D A s.heap (MW cI cJ M mr (upd mi 68 nkeptAt_83) (va_up (va_up (va_up (va_up mf 27 g_12) 28 g_67) 29 g_77) 30 g_22) mg) H locs := hw82
        obtain ⟨hp_85, hp_86⟩ := hp
        have hp_85 : nkeptAt_83.toInt = nkeptAt_73.toInt + 1 := hp_85
        have hp_86 : r_81 = (mf 69) (nkeptAt_73).toNatClampNeg := hp_86
        have er_81 := hp_86
        refine x_iastG (pc := 79) (f := g_22) (wf := fun g => (MW cI cJ M mr (upd mi 68 nkeptAt_83) (va_up (va_up (va_up (va_up mf 27 g_12) 28 g_67) 29 g_77) 30 g) mg)) E hw84 17 rfl (inbE (a := x_18.toInt) rfl (by omega)) (fun _ => rfl) dX12_keepsLaw_79 (fun g_87 H locs eg_87 hw88 => ?_)
        obtain ⟨v_89, ev_89⟩ : ∃ z : Int32, x_18 + Int32.ofInt (1) = z := ⟨_, rfl⟩
        have hv_89 : v_89.toInt = x_18.toInt + (1) := by rw [← ev_89]; exact incE rfl (by decide) (by omega)
        refine lv_iinc (pc := 80) (v := v_89) (lv' := [(2, .int v_89), (0, .ref M), (1, .int 1)]) E.1 E.2.1 dX12_keepsLaw_80 hl25 (k := 0) rfl ev_89 (by decide) rfl (fun ls hl90 => ?_)
        refine lv_goto (pc := 83) (tgt := 21) E.1 E.2.1 dX12_keepsLaw_83 (by decide) ?_
        exact ih_23 v_89 nkeptAt_83 g_67 g_77 g_87 _ _ _ ⟨(by show 16 ≤ v_89.toInt; omega), (by show v_89.toInt ≤ 32; omega), (by show nkeptAt_83.toInt = 2253 + 3 * v_89.toInt; omega), (SGT_row hi_22_3 eg_67 (by omega) (by omega) er_61 (by omega) (m := (v_89.toInt - 16)) (by omega)), (FRM_put hi_22_4 eg_67 (by omega)), (SGT_row hi_22_5 eg_77 (by omega) (by omega) er_71 (by omega) (m := (v_89.toInt - 16)) (by omega)), (FRM_put hi_22_6 eg_77 (by omega)), (SGT_row hi_22_7 eg_87 (by omega) (by omega) er_81 (by omega) (m := (v_89.toInt - 16)) (by omega)), (FRM_put hi_22_8 eg_87 (by omega))⟩ (by omega) hw88 (lv_sub hl90 [0, 1, 2] rfl)
  exact loop_17 (Int.toNat (32 - 16) + 1) 16 nkeptAt_8 (mf 28) (mf 29) (mf 30) _ _ _ ⟨(by show 16 ≤ (16 : Int32).toInt; have k_0 : (16 : Int32).toInt = 16 := (by decide +kernel); omega), (by show (16 : Int32).toInt ≤ 32; have k_0 : (16 : Int32).toInt = 16 := (by decide +kernel); omega), (by show nkeptAt_8.toInt = 2253 + 3 * (16 : Int32).toInt; have k_0 : (16 : Int32).toInt = 16 := (by decide +kernel); omega), (SGT_nil (by decide +kernel)), FRM_nil, (SGT_nil (by decide +kernel)), FRM_nil, (SGT_nil (by decide +kernel)), FRM_nil⟩ (by have k_0 : (16 : Int32).toInt = 16 := (by decide +kernel); omega) hw13 (lv_sub hl16 [0, 1, 2] rfl)

