set_option maxHeartbeats 4000000 in
set_option maxRecDepth 100000 in
theorem s_takesOther3U (l : Launch) (D : va_G) (cI cJ : ClassId) (sz M : Nat) (mr : Nat → Nat) (mi : Nat → Int32) (mf : Nat → Nat → Int32) (mg : Nat → Nat → Int64) (z_n : Int32) (h0 : 0 ≤ z_n.toInt ∧ z_n.toInt ≤ 10) : Met l yX12_takesOther (Cond.code yX12_takesOther cX12_takesOther 4 none :: GW) ({ frames := 1, cells := 0, slots := 0, locals := 40 } : Room) (va_Pc [.ref M, .int 3, .int z_n] (PW D cI cJ sz (MW cI cJ M mr mi mf mg) xT)) (va_Qv (fun (u : (Nat → Int32) × Int32 × (Nat → Int32) × Int32) => (u.2.1.toInt = z_n.toInt) ∧ (u.2.2.2.toInt = 0) ∧ ((u.2.2.1 2).toInt = ((mf 1) 2).toInt) ∧ ((u.2.2.1 3).toInt = ((mf 1) 3).toInt) ∧ ((u.2.2.1 5).toInt = ((mf 1) 5).toInt) ∧ ((u.2.2.1 0).toInt = ((mf 1) 0).toInt) ∧ ((u.2.2.1 1).toInt = ((mf 1) 1).toInt) ∧ (rowsOK u.2.2.2.toInt (mi 6).toInt (mf 2)) ∧ (RKN u.2.2.2.toInt ((u.2.2.1 0).toInt) (mf 2)) ∧ (RKD u.2.2.2.toInt (u.2.2.1 1) (mi 12).toInt (mf 2))) (fun u => QW D cI cJ (va_A (MW cI cJ M mr mi mf mg) sz) ((fun (u : (Nat → Int32) × Int32 × (Nat → Int32) × Int32) => (MW cI cJ M mr (upd (upd mi 44 u.2.1) 3 u.2.2.2) (va_up (va_up mf 45 u.1) 1 u.2.2.1) mg)) u)) (va_A (MW cI cJ M mr mi mf mg) sz)) 0 0 (va_A (MW cI cJ M mr mi mf mg) sz) := by
  refine mk_met (y := yX12_takesOther) (bytes := cX12_takesOther) (maxL := 4) (avs := [.ref M, .int 3, .int z_n]) (WS := (MW cI cJ M mr mi mf mg)) (Qf := fun A => va_Qv (fun (u : (Nat → Int32) × Int32 × (Nat → Int32) × Int32) => (u.2.1.toInt = z_n.toInt) ∧ (u.2.2.2.toInt = 0) ∧ ((u.2.2.1 2).toInt = ((mf 1) 2).toInt) ∧ ((u.2.2.1 3).toInt = ((mf 1) 3).toInt) ∧ ((u.2.2.1 5).toInt = ((mf 1) 5).toInt) ∧ ((u.2.2.1 0).toInt = ((mf 1) 0).toInt) ∧ ((u.2.2.1 1).toInt = ((mf 1) 1).toInt) ∧ (rowsOK u.2.2.2.toInt (mi 6).toInt (mf 2)) ∧ (RKN u.2.2.2.toInt ((u.2.2.1 0).toInt) (mf 2)) ∧ (RKD u.2.2.2.toInt (u.2.2.1 1) (mi 12).toInt (mf 2))) (fun u => QW D cI cJ A ((fun (u : (Nat → Int32) × Int32 × (Nat → Int32) × Int32) => (MW cI cJ M mr (upd (upd mi 44 u.2.1) 3 u.2.2.2) (va_up (va_up mf 45 u.1) 1 u.2.2.1) mg)) u)) A) (by decide) (Nat.le_of_ble_eq_true rfl) ?_
  intro p e s m below meth c A ls E hr hlk hnm hX hw1 hl2
  have hl3 : lv_has ls 4 [(0, .ref M), (1, .int 3), (2, .int z_n)] := hl2
  refine lv_iload_n (pc := 0) E.1 E.2.1 dX12_takesOther_0 rfl (lv_at hl3 1 rfl) ?_
  refine lv_iconst (pc := 1) (v := 2) E.1 E.2.1 dX12_takesOther_1 (by decide +kernel) ?_
  refine lv_icmp_ne (pc := 2) (tgt := 41) E.1 E.2.1 dX12_takesOther_2 (by decide) (fun _ => ?_) (fun c_4 => absurd c_4 (mneE (a := 3) (b := 2) (by decide +kernel) (by decide +kernel) (by omega)))
  refine lv_iload_n (pc := 41) E.1 E.2.1 dX12_takesOther_41 rfl (lv_at hl3 1 rfl) ?_
  refine lv_iconst (pc := 42) (v := 3) E.1 E.2.1 dX12_takesOther_42 (by decide +kernel) ?_
  refine lv_icmp_ne (pc := 43) (tgt := 115) E.1 E.2.1 dX12_takesOther_43 (by decide) (fun c_5 => absurd (meqE (a := 3) (b := 3) (by decide +kernel) (by decide +kernel) (by omega)) c_5) (fun _ => ?_)
  refine lv_iconst (pc := 46) (v := 0) E.1 E.2.1 dX12_takesOther_46 (by decide +kernel) ?_
  refine lv_istore_n (pc := 47) (lv' := [(3, .int 0), (0, .ref M), (1, .int 3), (2, .int z_n)]) E.1 E.2.1 dX12_takesOther_47 rfl hl3 (by decide) rfl (fun ls hl6 => ?_)
  have loop_7 : ∀ (k : Nat) (x_8 : Int32) (g_9 : Nat → Int32) (H : Heap) (locs : List Loc) (ls : Array Slot), (0 ≤ x_8.toInt) ∧ (x_8.toInt ≤ 5 * z_n.toInt) → 5 * z_n.toInt - x_8.toInt < (k : Int) → WD D A s.heap (MW cI cJ M mr mi (va_up mf 45 g_9) mg) H locs → lv_has ls 4 [(3, .int x_8), (0, .ref M), (1, .int 3), (2, .int z_n)] → W p l e ({ frames := 1, cells := 0, slots := 0, locals := 40 } : Room) s m ([.ref M, .int 3, .int z_n] : List Value).toArray below meth c H locs 0 0 (MQ below (va_Qv (fun (u : (Nat → Int32) × Int32 × (Nat → Int32) × Int32) => (u.2.1.toInt = z_n.toInt) ∧ (u.2.2.2.toInt = 0) ∧ ((u.2.2.1 2).toInt = ((mf 1) 2).toInt) ∧ ((u.2.2.1 3).toInt = ((mf 1) 3).toInt) ∧ ((u.2.2.1 5).toInt = ((mf 1) 5).toInt) ∧ ((u.2.2.1 0).toInt = ((mf 1) 0).toInt) ∧ ((u.2.2.1 1).toInt = ((mf 1) 1).toInt) ∧ (rowsOK u.2.2.2.toInt (mi 6).toInt (mf 2)) ∧ (RKN u.2.2.2.toInt ((u.2.2.1 0).toInt) (mf 2)) ∧ (RKD u.2.2.2.toInt (u.2.2.1 1) (mi 12).toInt (mf 2))) (fun u => QW D cI cJ A ((fun (u : (Nat → Int32) × Int32 × (Nat → Int32) × Int32) => (MW cI cJ M mr (upd (upd mi 44 u.2.1) 3 u.2.2.2) (va_up (va_up mf 45 u.1) 1 u.2.2.1) mg)) u)) A) ([.ref M, .int 3, .int z_n] : List Value).toArray s 0 0 A) (F0 m 48 ls []) := by
    intro k
    induction k with
    | zero =>
      intro x_8 g_9 _ _ _ hinv hm
      obtain ⟨hi_9_0, hi_9_1⟩ := hinv
      exact absurd hm (by omega)
    | succ k ih_10 =>
      intro x_8 g_9 H locs ls hinv hm hw11 hl12
      obtain ⟨hi_9_0, hi_9_1⟩ := hinv
      refine lv_iload_n (pc := 48) E.1 E.2.1 dX12_takesOther_48 rfl (lv_at hl12 0 rfl) ?_
      refine lv_iconst (pc := 49) (v := 5) E.1 E.2.1 dX12_takesOther_49 (by decide +kernel) ?_
      refine lv_iload_n (pc := 50) E.1 E.2.1 dX12_takesOther_50 rfl (lv_at hl12 3 rfl) ?_
      refine lv_imul (pc := 51) E.1 E.2.1 dX12_takesOther_51 ?_
      refine lv_topi (fun v_13 ev_13 => ?_)
      have hv_13 : v_13.toInt = 5 * z_n.toInt := by rw [ev_13]; exact mulE (by decide +kernel) rfl (by omega)
      refine lv_icmp_ge (pc := 52) (tgt := 76) E.1 E.2.1 dX12_takesOther_52 (by decide) (fun c_14 => ?_) (fun c_14 => ?_)
      · skip
        have hc_14 := leE (a := v_13.toInt) (b := x_8.toInt) rfl rfl c_14
        refine lv_aload_n (pc := 76) E.1 E.2.1 dX12_takesOther_76 rfl (lv_at hl12 1 rfl) ?_
        refine lv_iload_n (pc := 77) E.1 E.2.1 dX12_takesOther_77 rfl (lv_at hl12 3 rfl) ?_
        refine x_put (pc := 78) (T := TX12) (N := 70) (ci := 12) (ws' := (MW cI cJ M mr (upd mi 44 z_n) (va_up mf 45 g_9) mg)) E hw11 inX12 tyX12_ok nmX12 0 44 q_1443 rfl rfl (by decide) rfl rfl rfl rfl (Nat.le_of_ble_eq_true rfl) rfl dX12_takesOther_78 (fun H locs hw15 => ?_)
        refine lv_iconst (pc := 81) (v := 0) E.1 E.2.1 dX12_takesOther_81 (by decide +kernel) ?_
        refine lv_istore_n (pc := 82) (lv' := [(3, .int 0), (0, .ref M), (1, .int 3), (2, .int z_n)]) E.1 E.2.1 dX12_takesOther_82 rfl hl12 (by decide) rfl (fun ls hl16 => ?_)
        have loop_17 : ∀ (k : Nat) (x_18 : Int32) (g_19 : Nat → Int32) (H : Heap) (locs : List Loc) (ls : Array Slot), (0 ≤ x_18.toInt) ∧ (x_18.toInt ≤ 10) ∧ ((g_19 0).toInt = ((mf 1) 0).toInt) ∧ ((g_19 1).toInt = ((mf 1) 1).toInt) ∧ ((g_19 2).toInt = ((mf 1) 2).toInt) ∧ ((g_19 3).toInt = ((mf 1) 3).toInt) ∧ ((g_19 5).toInt = ((mf 1) 5).toInt) → 10 - x_18.toInt < (k : Int) → WD D A s.heap (MW cI cJ M mr (upd mi 44 z_n) (va_up (va_up mf 1 g_19) 45 g_9) mg) H locs → lv_has ls 4 [(3, .int x_18), (0, .ref M), (1, .int 3), (2, .int z_n)] → W p l e ({ frames := 1, cells := 0, slots := 0, locals := 40 } : Room) s m ([.ref M, .int 3, .int z_n] : List Value).toArray below meth c H locs 0 0 (MQ below (va_Qv (fun (u : (Nat → Int32) × Int32 × (Nat → Int32) × Int32) => (u.2.1.toInt = z_n.toInt) ∧ (u.2.2.2.toInt = 0) ∧ ((u.2.2.1 2).toInt = ((mf 1) 2).toInt) ∧ ((u.2.2.1 3).toInt = ((mf 1) 3).toInt) ∧ ((u.2.2.1 5).toInt = ((mf 1) 5).toInt) ∧ ((u.2.2.1 0).toInt = ((mf 1) 0).toInt) ∧ ((u.2.2.1 1).toInt = ((mf 1) 1).toInt) ∧ (rowsOK u.2.2.2.toInt (mi 6).toInt (mf 2)) ∧ (RKN u.2.2.2.toInt ((u.2.2.1 0).toInt) (mf 2)) ∧ (RKD u.2.2.2.toInt (u.2.2.1 1) (mi 12).toInt (mf 2))) (fun u => QW D cI cJ A ((fun (u : (Nat → Int32) × Int32 × (Nat → Int32) × Int32) => (MW cI cJ M mr (upd (upd mi 44 u.2.1) 3 u.2.2.2) (va_up (va_up mf 45 u.1) 1 u.2.2.1) mg)) u)) A) ([.ref M, .int 3, .int z_n] : List Value).toArray s 0 0 A) (F0 m 83 ls []) := by
          intro k
          induction k with
          | zero =>
            intro x_18 g_19 _ _ _ hinv hm
            obtain ⟨hi_19_0, hi_19_1, hi_19_2, hi_19_3, hi_19_4, hi_19_5, hi_19_6⟩ := hinv
            exact absurd hm (by omega)
          | succ k ih_20 =>
            intro x_18 g_19 H locs ls hinv hm hw21 hl22
            obtain ⟨hi_19_0, hi_19_1, hi_19_2, hi_19_3, hi_19_4, hi_19_5, hi_19_6⟩ := hinv
            refine lv_iload_n (pc := 83) E.1 E.2.1 dX12_takesOther_83 rfl (lv_at hl22 0 rfl) ?_
            refine lv_bipush (pc := 84) (v := 10) E.1 E.2.1 dX12_takesOther_84 (by decide +kernel) ?_
            refine lv_icmp_ge (pc := 86) (tgt := 115) E.1 E.2.1 dX12_takesOther_86 (by decide) (fun c_23 => ?_) (fun c_23 => ?_)
            · skip
              have hc_23 := leE (a := 10) (b := x_18.toInt) (by decide +kernel) rfl c_23
              refine lv_iload_n (pc := 115) E.1 E.2.1 dX12_takesOther_115 rfl (lv_at hl22 2 rfl) ?_
              refine lv_iconst (pc := 116) (v := 4) E.1 E.2.1 dX12_takesOther_116 (by decide +kernel) ?_
              refine lv_icmp_ne (pc := 117) (tgt := 161) E.1 E.2.1 dX12_takesOther_117 (by decide) (fun _ => ?_) (fun c_24 => absurd c_24 (mneE (a := 3) (b := 4) (by decide +kernel) (by decide +kernel) (by omega)))
              refine lv_aload_n (pc := 161) E.1 E.2.1 dX12_takesOther_161 rfl (lv_at hl22 1 rfl) ?_
              refine lv_iconst (pc := 162) (v := 0) E.1 E.2.1 dX12_takesOther_162 (by decide +kernel) ?_
              refine x_put (pc := 163) (T := TX12) (N := 70) (ci := 12) (ws' := (MW cI cJ M mr (upd (upd mi 3 0) 44 z_n) (va_up (va_up mf 1 g_19) 45 g_9) mg)) E hw21 inX12 tyX12_ok nmX12 0 3 q_1402 rfl rfl (by decide) rfl rfl rfl rfl (Nat.le_of_ble_eq_true rfl) rfl dX12_takesOther_163 (fun H locs hw25 => ?_)
              exact em_v (w1 := (fun (u : (Nat → Int32) × Int32 × (Nat → Int32) × Int32) => (MW cI cJ M mr (upd (upd mi 44 u.2.1) 3 u.2.2.2) (va_up (va_up mf 45 u.1) 1 u.2.2.1) mg))) E hr hlk (g_9, z_n, g_19, 0) hw25 ⟨rfl, (by show (0 : Int32).toInt = 0; have k_0 : (0 : Int32).toInt = 0 := (by decide +kernel); omega), hi_19_4, hi_19_5, hi_19_6, hi_19_2, hi_19_3, (show rowsOK (0 : Int32).toInt (mi 6).toInt (mf 2) from (rowsOK_nil (by decide +kernel))), (show RKN (0 : Int32).toInt ((g_19 0).toInt) (mf 2) from (RKN_nil (by first | omega | decide +kernel))), (show RKD (0 : Int32).toInt (g_19 1) (mi 12).toInt (mf 2) from (RKD_nil (by first | omega | decide +kernel)))⟩ (Nat.le_of_ble_eq_true rfl) (Nat.le_of_ble_eq_true rfl) dX12_takesOther_166
            · skip
              have hc_23 := nleE (a := 10) (b := x_18.toInt) (by decide +kernel) rfl c_23
              refine lv_aload_n (pc := 89) E.1 E.2.1 dX12_takesOther_89 rfl (lv_at hl22 1 rfl) ?_
              refine x_get (pc := 90) (T := TX12) (N := 70) (ci := 12) (v := .ref (mr 1)) E hw21 inX12 0 1 q_1400 rfl rfl (by decide) rfl rfl dX12_takesOther_90 ?_
              refine lv_bipush (pc := 93) (v := 46) E.1 E.2.1 dX12_takesOther_93 (by decide +kernel) ?_
              refine lv_iload_n (pc := 95) E.1 E.2.1 dX12_takesOther_95 rfl (lv_at hl22 0 rfl) ?_
              refine lv_iadd (pc := 96) E.1 E.2.1 dX12_takesOther_96 ?_
              refine lv_topi (fun v_26 ev_26 => ?_)
              have hv_26 : v_26.toInt = 46 + x_18.toInt := by rw [ev_26]; exact addE (by decide +kernel) rfl (by omega)
              refine lv_iconst (pc := 97) (v := 0) E.1 E.2.1 dX12_takesOther_97 (by decide +kernel) ?_
              refine x_iastG (pc := 98) (f := g_19) (wf := fun g => (MW cI cJ M mr (upd mi 44 z_n) (va_up (va_up mf 1 g) 45 g_9) mg)) E hw21 1 rfl (inbE (a := v_26.toInt) rfl (by omega)) (fun _ => rfl) dX12_takesOther_98 (fun g_27 H locs eg_27 hw28 => ?_)
              have ht_29 : (g_27 0).toInt = (g_19 0).toInt := by rw [eg_27, pk_un (by have q9 := idxI (x := v_26) (by omega); omega)]
              have ht_30 : (g_27 1).toInt = (g_19 1).toInt := by rw [eg_27, pk_un (by have q9 := idxI (x := v_26) (by omega); omega)]
              have ht_31 : (g_27 2).toInt = (g_19 2).toInt := by rw [eg_27, pk_un (by have q9 := idxI (x := v_26) (by omega); omega)]
              have ht_32 : (g_27 3).toInt = (g_19 3).toInt := by rw [eg_27, pk_un (by have q9 := idxI (x := v_26) (by omega); omega)]
              have ht_33 : (g_27 5).toInt = (g_19 5).toInt := by rw [eg_27, pk_un (by have q9 := idxI (x := v_26) (by omega); omega)]
              refine lv_aload_n (pc := 99) E.1 E.2.1 dX12_takesOther_99 rfl (lv_at hl22 1 rfl) ?_
              refine x_get (pc := 100) (T := TX12) (N := 70) (ci := 12) (v := .ref (mr 1)) E hw28 inX12 0 1 q_1400 rfl rfl (by decide) rfl rfl dX12_takesOther_100 ?_
              refine lv_bipush (pc := 103) (v := 56) E.1 E.2.1 dX12_takesOther_103 (by decide +kernel) ?_
              refine lv_iload_n (pc := 105) E.1 E.2.1 dX12_takesOther_105 rfl (lv_at hl22 0 rfl) ?_
              refine lv_iadd (pc := 106) E.1 E.2.1 dX12_takesOther_106 ?_
              refine lv_topi (fun v_34 ev_34 => ?_)
              have hv_34 : v_34.toInt = 56 + x_18.toInt := by rw [ev_34]; exact addE (by decide +kernel) rfl (by omega)
              refine lv_iconst (pc := 107) (v := 0) E.1 E.2.1 dX12_takesOther_107 (by decide +kernel) ?_
              refine x_iastG (pc := 108) (f := g_27) (wf := fun g => (MW cI cJ M mr (upd mi 44 z_n) (va_up (va_up mf 1 g) 45 g_9) mg)) E hw28 1 rfl (inbE (a := v_34.toInt) rfl (by omega)) (fun _ => rfl) dX12_takesOther_108 (fun g_35 H locs eg_35 hw36 => ?_)
              have ht_37 : (g_35 0).toInt = (g_27 0).toInt := by rw [eg_35, pk_un (by have q9 := idxI (x := v_34) (by omega); omega)]
              have ht_38 : (g_35 1).toInt = (g_27 1).toInt := by rw [eg_35, pk_un (by have q9 := idxI (x := v_34) (by omega); omega)]
              have ht_39 : (g_35 2).toInt = (g_27 2).toInt := by rw [eg_35, pk_un (by have q9 := idxI (x := v_34) (by omega); omega)]
              have ht_40 : (g_35 3).toInt = (g_27 3).toInt := by rw [eg_35, pk_un (by have q9 := idxI (x := v_34) (by omega); omega)]
              have ht_41 : (g_35 5).toInt = (g_27 5).toInt := by rw [eg_35, pk_un (by have q9 := idxI (x := v_34) (by omega); omega)]
              obtain ⟨v_42, ev_42⟩ : ∃ z : Int32, x_18 + Int32.ofInt (1) = z := ⟨_, rfl⟩
              have hv_42 : v_42.toInt = x_18.toInt + (1) := by rw [← ev_42]; exact incE rfl (by decide) (by omega)
              refine lv_iinc (pc := 109) (v := v_42) (lv' := [(3, .int v_42), (0, .ref M), (1, .int 3), (2, .int z_n)]) E.1 E.2.1 dX12_takesOther_109 hl22 (k := 0) rfl ev_42 (by decide) rfl (fun ls hl43 => ?_)
              refine lv_goto (pc := 112) (tgt := 83) E.1 E.2.1 dX12_takesOther_112 (by decide) ?_
              exact ih_20 v_42 g_35 _ _ _ ⟨(by show 0 ≤ v_42.toInt; omega), (by show v_42.toInt ≤ 10; omega), (by show (g_35 0).toInt = ((mf 1) 0).toInt; omega), (by show (g_35 1).toInt = ((mf 1) 1).toInt; omega), (by show (g_35 2).toInt = ((mf 1) 2).toInt; omega), (by show (g_35 3).toInt = ((mf 1) 3).toInt; omega), (by show (g_35 5).toInt = ((mf 1) 5).toInt; omega)⟩ (by omega) hw36 (lv_sub hl43 [0, 1, 2, 3] rfl)
        exact loop_17 (Int.toNat (10 - 0) + 1) 0 (mf 1) _ _ _ ⟨(by show 0 ≤ (0 : Int32).toInt; have k_0 : (0 : Int32).toInt = 0 := (by decide +kernel); omega), (by show (0 : Int32).toInt ≤ 10; have k_0 : (0 : Int32).toInt = 0 := (by decide +kernel); omega), rfl, rfl, rfl, rfl, rfl⟩ (by have k_0 : (0 : Int32).toInt = 0 := (by decide +kernel); omega) hw15 (lv_sub hl16 [0, 1, 2, 3] rfl)
      · skip
        have hc_14 := nleE (a := v_13.toInt) (b := x_8.toInt) rfl rfl c_14
        refine lv_aload_n (pc := 55) E.1 E.2.1 dX12_takesOther_55 rfl (lv_at hl12 1 rfl) ?_
        refine x_get (pc := 56) (T := TX12) (N := 70) (ci := 12) (v := .ref (mr 45)) E hw11 inX12 0 45 q_1444 rfl rfl (by decide) rfl rfl dX12_takesOther_56 ?_
        refine lv_iload_n (pc := 59) E.1 E.2.1 dX12_takesOther_59 rfl (lv_at hl12 0 rfl) ?_
        refine lv_aload_n (pc := 60) E.1 E.2.1 dX12_takesOther_60 rfl (lv_at hl12 1 rfl) ?_
        refine x_get (pc := 61) (T := TX12) (N := 70) (ci := 12) (v := .ref (mr 45)) E hw11 inX12 0 45 q_1444 rfl rfl (by decide) rfl rfl dX12_takesOther_61 ?_
        refine lv_bipush (pc := 64) (v := 50) E.1 E.2.1 dX12_takesOther_64 (by decide +kernel) ?_
        refine lv_iload_n (pc := 66) E.1 E.2.1 dX12_takesOther_66 rfl (lv_at hl12 0 rfl) ?_
        refine lv_iadd (pc := 67) E.1 E.2.1 dX12_takesOther_67 ?_
        refine lv_topi (fun v_44 ev_44 => ?_)
        have hv_44 : v_44.toInt = 50 + x_8.toInt := by rw [ev_44]; exact addE (by decide +kernel) rfl (by omega)
        refine x_iald (pc := 68) (f := g_9) E hw11 22 rfl (inbE (a := v_44.toInt) rfl (by omega)) dX12_takesOther_68 ?_
        refine lv_topi (fun v_45 ev_45 => ?_)
        refine x_iastG (pc := 69) (f := g_9) (wf := fun g => (MW cI cJ M mr mi (va_up mf 45 g) mg)) E hw11 22 rfl (inbE (a := x_8.toInt) rfl (by omega)) (fun _ => rfl) dX12_takesOther_69 (fun g_46 H locs eg_46 hw47 => ?_)
        obtain ⟨v_48, ev_48⟩ : ∃ z : Int32, x_8 + Int32.ofInt (1) = z := ⟨_, rfl⟩
        have hv_48 : v_48.toInt = x_8.toInt + (1) := by rw [← ev_48]; exact incE rfl (by decide) (by omega)
        refine lv_iinc (pc := 70) (v := v_48) (lv' := [(3, .int v_48), (0, .ref M), (1, .int 3), (2, .int z_n)]) E.1 E.2.1 dX12_takesOther_70 hl12 (k := 0) rfl ev_48 (by decide) rfl (fun ls hl49 => ?_)
        refine lv_goto (pc := 73) (tgt := 48) E.1 E.2.1 dX12_takesOther_73 (by decide) ?_
        exact ih_10 v_48 g_46 _ _ _ ⟨(by show 0 ≤ v_48.toInt; omega), (by show v_48.toInt ≤ 5 * z_n.toInt; omega)⟩ (by omega) hw47 (lv_sub hl49 [0, 1, 2, 3] rfl)
  exact loop_7 (Int.toNat (5 * z_n.toInt - 0) + 1) 0 (mf 45) _ _ _ ⟨(by show 0 ≤ (0 : Int32).toInt; have k_0 : (0 : Int32).toInt = 0 := (by decide +kernel); omega), (by show (0 : Int32).toInt ≤ 5 * z_n.toInt; have k_0 : (0 : Int32).toInt = 0 := (by decide +kernel); omega)⟩ (by have k_0 : (0 : Int32).toInt = 0 := (by decide +kernel); omega) hw1 (lv_sub hl6 [0, 1, 2, 3] rfl)
set_option maxHeartbeats 4000000 in
set_option maxRecDepth 100000 in
theorem s_takesOther4U (l : Launch) (D : va_G) (cI cJ : ClassId) (sz M : Nat) (mr : Nat → Nat) (mi : Nat → Int32) (mf : Nat → Nat → Int32) (mg : Nat → Nat → Int64) (z_n : Int32) (h0 : 0 ≤ z_n.toInt ∧ z_n.toInt ≤ 200) (x_rn : rnd2 (mf 50) z_n.toInt (mi 6).toInt) : Met l yX12_takesOther (Cond.code yX12_takesOther cX12_takesOther 4 none :: GW) ({ frames := 1, cells := 0, slots := 0, locals := 40 } : Room) (va_Pc [.ref M, .int 4, .int z_n] (PW D cI cJ sz (MW cI cJ M mr mi mf mg) xT)) (va_Qv (fun (u : (Nat → Int32) × Int32 × (Nat → Int32) × Int32) => (u.2.1.toInt = z_n.toInt) ∧ (u.2.2.2.toInt = 0) ∧ ((u.2.2.1 2).toInt = ((mf 1) 2).toInt) ∧ ((u.2.2.1 3).toInt = ((mf 1) 3).toInt) ∧ ((u.2.2.1 5).toInt = 0) ∧ ((u.2.2.1 0).toInt = ((mf 1) 0).toInt) ∧ ((u.2.2.1 1).toInt = ((mf 1) 1).toInt) ∧ (rowsOK u.2.2.2.toInt (mi 6).toInt (mf 2)) ∧ (rndOK u.2.1.toInt (mi 6).toInt u.1) ∧ (RKN u.2.2.2.toInt ((u.2.2.1 0).toInt) (mf 2)) ∧ (RKD u.2.2.2.toInt (u.2.2.1 1) (mi 12).toInt (mf 2))) (fun u => QW D cI cJ (va_A (MW cI cJ M mr mi mf mg) sz) ((fun (u : (Nat → Int32) × Int32 × (Nat → Int32) × Int32) => (MW cI cJ M mr (upd (upd mi 49 u.2.1) 3 u.2.2.2) (va_up (va_up mf 50 u.1) 1 u.2.2.1) mg)) u)) (va_A (MW cI cJ M mr mi mf mg) sz)) 0 0 (va_A (MW cI cJ M mr mi mf mg) sz) := by
  refine mk_met (y := yX12_takesOther) (bytes := cX12_takesOther) (maxL := 4) (avs := [.ref M, .int 4, .int z_n]) (WS := (MW cI cJ M mr mi mf mg)) (Qf := fun A => va_Qv (fun (u : (Nat → Int32) × Int32 × (Nat → Int32) × Int32) => (u.2.1.toInt = z_n.toInt) ∧ (u.2.2.2.toInt = 0) ∧ ((u.2.2.1 2).toInt = ((mf 1) 2).toInt) ∧ ((u.2.2.1 3).toInt = ((mf 1) 3).toInt) ∧ ((u.2.2.1 5).toInt = 0) ∧ ((u.2.2.1 0).toInt = ((mf 1) 0).toInt) ∧ ((u.2.2.1 1).toInt = ((mf 1) 1).toInt) ∧ (rowsOK u.2.2.2.toInt (mi 6).toInt (mf 2)) ∧ (rndOK u.2.1.toInt (mi 6).toInt u.1) ∧ (RKN u.2.2.2.toInt ((u.2.2.1 0).toInt) (mf 2)) ∧ (RKD u.2.2.2.toInt (u.2.2.1 1) (mi 12).toInt (mf 2))) (fun u => QW D cI cJ A ((fun (u : (Nat → Int32) × Int32 × (Nat → Int32) × Int32) => (MW cI cJ M mr (upd (upd mi 49 u.2.1) 3 u.2.2.2) (va_up (va_up mf 50 u.1) 1 u.2.2.1) mg)) u)) A) (by decide) (Nat.le_of_ble_eq_true rfl) ?_
  intro p e s m below meth c A ls E hr hlk hnm hX hw1 hl2
  have hl3 : lv_has ls 4 [(0, .ref M), (1, .int 4), (2, .int z_n)] := hl2
  refine lv_iload_n (pc := 0) E.1 E.2.1 dX12_takesOther_0 rfl (lv_at hl3 1 rfl) ?_
  refine lv_iconst (pc := 1) (v := 2) E.1 E.2.1 dX12_takesOther_1 (by decide +kernel) ?_
  refine lv_icmp_ne (pc := 2) (tgt := 41) E.1 E.2.1 dX12_takesOther_2 (by decide) (fun _ => ?_) (fun c_4 => absurd c_4 (mneE (a := 4) (b := 2) (by decide +kernel) (by decide +kernel) (by omega)))
  refine lv_iload_n (pc := 41) E.1 E.2.1 dX12_takesOther_41 rfl (lv_at hl3 1 rfl) ?_
  refine lv_iconst (pc := 42) (v := 3) E.1 E.2.1 dX12_takesOther_42 (by decide +kernel) ?_
  refine lv_icmp_ne (pc := 43) (tgt := 115) E.1 E.2.1 dX12_takesOther_43 (by decide) (fun _ => ?_) (fun c_5 => absurd c_5 (mneE (a := 4) (b := 3) (by decide +kernel) (by decide +kernel) (by omega)))
  refine lv_iload_n (pc := 115) E.1 E.2.1 dX12_takesOther_115 rfl (lv_at hl3 1 rfl) ?_
  refine lv_iconst (pc := 116) (v := 4) E.1 E.2.1 dX12_takesOther_116 (by decide +kernel) ?_
  refine lv_icmp_ne (pc := 117) (tgt := 161) E.1 E.2.1 dX12_takesOther_117 (by decide) (fun c_6 => absurd (meqE (a := 4) (b := 4) (by decide +kernel) (by decide +kernel) (by omega)) c_6) (fun _ => ?_)
  refine lv_iconst (pc := 120) (v := 0) E.1 E.2.1 dX12_takesOther_120 (by decide +kernel) ?_
  refine lv_istore_n (pc := 121) (lv' := [(3, .int 0), (0, .ref M), (1, .int 4), (2, .int z_n)]) E.1 E.2.1 dX12_takesOther_121 rfl hl3 (by decide) rfl (fun ls hl7 => ?_)
  have loop_8 : ∀ (k : Nat) (x_9 : Int32) (g_10 : Nat → Int32) (H : Heap) (locs : List Loc) (ls : Array Slot), (0 ≤ x_9.toInt) ∧ (x_9.toInt ≤ z_n.toInt) ∧ (MV g_10 (mf 50) 0 200 x_9.toInt) → z_n.toInt - x_9.toInt < (k : Int) → WD D A s.heap (MW cI cJ M mr mi (va_up mf 50 g_10) mg) H locs → lv_has ls 4 [(3, .int x_9), (0, .ref M), (1, .int 4), (2, .int z_n)] → W p l e ({ frames := 1, cells := 0, slots := 0, locals := 40 } : Room) s m ([.ref M, .int 4, .int z_n] : List Value).toArray below meth c H locs 0 0 (MQ below (va_Qv (fun (u : (Nat → Int32) × Int32 × (Nat → Int32) × Int32) => (u.2.1.toInt = z_n.toInt) ∧ (u.2.2.2.toInt = 0) ∧ ((u.2.2.1 2).toInt = ((mf 1) 2).toInt) ∧ ((u.2.2.1 3).toInt = ((mf 1) 3).toInt) ∧ ((u.2.2.1 5).toInt = 0) ∧ ((u.2.2.1 0).toInt = ((mf 1) 0).toInt) ∧ ((u.2.2.1 1).toInt = ((mf 1) 1).toInt) ∧ (rowsOK u.2.2.2.toInt (mi 6).toInt (mf 2)) ∧ (rndOK u.2.1.toInt (mi 6).toInt u.1) ∧ (RKN u.2.2.2.toInt ((u.2.2.1 0).toInt) (mf 2)) ∧ (RKD u.2.2.2.toInt (u.2.2.1 1) (mi 12).toInt (mf 2))) (fun u => QW D cI cJ A ((fun (u : (Nat → Int32) × Int32 × (Nat → Int32) × Int32) => (MW cI cJ M mr (upd (upd mi 49 u.2.1) 3 u.2.2.2) (va_up (va_up mf 50 u.1) 1 u.2.2.1) mg)) u)) A) ([.ref M, .int 4, .int z_n] : List Value).toArray s 0 0 A) (F0 m 122 ls []) := by
    intro k
    induction k with
    | zero =>
      intro x_9 g_10 _ _ _ hinv hm
      obtain ⟨hi_10_0, hi_10_1, hi_10_2⟩ := hinv
      exact absurd hm (by omega)
    | succ k ih_11 =>
      intro x_9 g_10 H locs ls hinv hm hw12 hl13
      obtain ⟨hi_10_0, hi_10_1, hi_10_2⟩ := hinv
      refine lv_iload_n (pc := 122) E.1 E.2.1 dX12_takesOther_122 rfl (lv_at hl13 0 rfl) ?_
      refine lv_iload_n (pc := 123) E.1 E.2.1 dX12_takesOther_123 rfl (lv_at hl13 3 rfl) ?_
      refine lv_icmp_ge (pc := 124) (tgt := 149) E.1 E.2.1 dX12_takesOther_124 (by decide) (fun c_14 => ?_) (fun c_14 => ?_)
      · skip
        have hc_14 := leE (a := z_n.toInt) (b := x_9.toInt) rfl rfl c_14
        refine lv_aload_n (pc := 149) E.1 E.2.1 dX12_takesOther_149 rfl (lv_at hl13 1 rfl) ?_
        refine lv_iload_n (pc := 150) E.1 E.2.1 dX12_takesOther_150 rfl (lv_at hl13 3 rfl) ?_
        refine x_put (pc := 151) (T := TX12) (N := 70) (ci := 12) (ws' := (MW cI cJ M mr (upd mi 49 z_n) (va_up mf 50 g_10) mg)) E hw12 inX12 tyX12_ok nmX12 0 49 q_1448 rfl rfl (by decide) rfl rfl rfl rfl (Nat.le_of_ble_eq_true rfl) rfl dX12_takesOther_151 (fun H locs hw15 => ?_)
        refine lv_aload_n (pc := 154) E.1 E.2.1 dX12_takesOther_154 rfl (lv_at hl13 1 rfl) ?_
        refine x_get (pc := 155) (T := TX12) (N := 70) (ci := 12) (v := .ref (mr 1)) E hw15 inX12 0 1 q_1400 rfl rfl (by decide) rfl rfl dX12_takesOther_155 ?_
        refine lv_iconst (pc := 158) (v := 5) E.1 E.2.1 dX12_takesOther_158 (by decide +kernel) ?_
        refine lv_iconst (pc := 159) (v := 0) E.1 E.2.1 dX12_takesOther_159 (by decide +kernel) ?_
        refine x_iastG (pc := 160) (f := (mf 1)) (wf := fun g => (MW cI cJ M mr (upd mi 49 z_n) (va_up (va_up mf 1 g) 50 g_10) mg)) E hw15 1 rfl (inbE (a := 5) (by decide +kernel) (by omega)) (fun _ => rfl) dX12_takesOther_160 (fun g_16 H locs eg_16 hw17 => ?_)
        have ht_18 : (g_16 0).toInt = ((mf 1) 0).toInt := by rw [eg_16]; rfl
        have ht_19 : (g_16 1).toInt = ((mf 1) 1).toInt := by rw [eg_16]; rfl
        have ht_20 : (g_16 2).toInt = ((mf 1) 2).toInt := by rw [eg_16]; rfl
        have ht_21 : (g_16 3).toInt = ((mf 1) 3).toInt := by rw [eg_16]; rfl
        have ht_22 : (g_16 5).toInt = (0 : Int32).toInt := by rw [eg_16]; rfl
        rw [show (0 : Int32).toInt = 0 from by decide +kernel] at ht_22
        refine lv_aload_n (pc := 161) E.1 E.2.1 dX12_takesOther_161 rfl (lv_at hl13 1 rfl) ?_
        refine lv_iconst (pc := 162) (v := 0) E.1 E.2.1 dX12_takesOther_162 (by decide +kernel) ?_
        refine x_put (pc := 163) (T := TX12) (N := 70) (ci := 12) (ws' := (MW cI cJ M mr (upd (upd mi 3 0) 49 z_n) (va_up (va_up mf 1 g_16) 50 g_10) mg)) E hw17 inX12 tyX12_ok nmX12 0 3 q_1402 rfl rfl (by decide) rfl rfl rfl rfl (Nat.le_of_ble_eq_true rfl) rfl dX12_takesOther_163 (fun H locs hw23 => ?_)
        exact em_v (w1 := (fun (u : (Nat → Int32) × Int32 × (Nat → Int32) × Int32) => (MW cI cJ M mr (upd (upd mi 49 u.2.1) 3 u.2.2.2) (va_up (va_up mf 50 u.1) 1 u.2.2.1) mg))) E hr hlk (g_10, z_n, g_16, 0) hw23 ⟨rfl, (by show (0 : Int32).toInt = 0; have k_0 : (0 : Int32).toInt = 0 := (by decide +kernel); omega), (by show (g_16 2).toInt = ((mf 1) 2).toInt; have k_0 : (0 : Int32).toInt = 0 := (by decide +kernel); omega), (by show (g_16 3).toInt = ((mf 1) 3).toInt; have k_0 : (0 : Int32).toInt = 0 := (by decide +kernel); omega), (by show (g_16 5).toInt = 0; have k_0 : (0 : Int32).toInt = 0 := (by decide +kernel); omega), (by show (g_16 0).toInt = ((mf 1) 0).toInt; have k_0 : (0 : Int32).toInt = 0 := (by decide +kernel); omega), (by show (g_16 1).toInt = ((mf 1) 1).toInt; have k_0 : (0 : Int32).toInt = 0 := (by decide +kernel); omega), (show rowsOK (0 : Int32).toInt (mi 6).toInt (mf 2) from (rowsOK_nil (by decide +kernel))), (show rndOK z_n.toInt (mi 6).toInt g_10 from (rndOK_MV x_rn hi_10_2 (by omega))), (show RKN (0 : Int32).toInt ((g_16 0).toInt) (mf 2) from (RKN_nil (by first | omega | decide +kernel))), (show RKD (0 : Int32).toInt (g_16 1) (mi 12).toInt (mf 2) from (RKD_nil (by first | omega | decide +kernel)))⟩ (Nat.le_of_ble_eq_true rfl) (Nat.le_of_ble_eq_true rfl) dX12_takesOther_166
      · skip
        have hc_14 := nleE (a := z_n.toInt) (b := x_9.toInt) rfl rfl c_14
        refine lv_aload_n (pc := 127) E.1 E.2.1 dX12_takesOther_127 rfl (lv_at hl13 1 rfl) ?_
        refine x_get (pc := 128) (T := TX12) (N := 70) (ci := 12) (v := .ref (mr 50)) E hw12 inX12 0 50 q_1449 rfl rfl (by decide) rfl rfl dX12_takesOther_128 ?_
        refine lv_iload_n (pc := 131) E.1 E.2.1 dX12_takesOther_131 rfl (lv_at hl13 0 rfl) ?_
        refine lv_aload_n (pc := 132) E.1 E.2.1 dX12_takesOther_132 rfl (lv_at hl13 1 rfl) ?_
        refine x_get (pc := 133) (T := TX12) (N := 70) (ci := 12) (v := .ref (mr 50)) E hw12 inX12 0 50 q_1449 rfl rfl (by decide) rfl rfl dX12_takesOther_133 ?_
        refine lv_sipush (pc := 136) (v := 200) E.1 E.2.1 dX12_takesOther_136 (by decide +kernel) ?_
        refine lv_iload_n (pc := 139) E.1 E.2.1 dX12_takesOther_139 rfl (lv_at hl13 0 rfl) ?_
        refine lv_iadd (pc := 140) E.1 E.2.1 dX12_takesOther_140 ?_
        refine lv_topi (fun v_24 ev_24 => ?_)
        have hv_24 : v_24.toInt = 200 + x_9.toInt := by rw [ev_24]; exact addE (by decide +kernel) rfl (by omega)
        refine x_iald (pc := 141) (f := g_10) E hw12 25 rfl (inbE (a := v_24.toInt) rfl (by omega)) dX12_takesOther_141 ?_
        refine lv_topi (fun v_25 ev_25 => ?_)
        refine x_iastG (pc := 142) (f := g_10) (wf := fun g => (MW cI cJ M mr mi (va_up mf 50 g) mg)) E hw12 25 rfl (inbE (a := x_9.toInt) rfl (by omega)) (fun _ => rfl) dX12_takesOther_142 (fun g_26 H locs eg_26 hw27 => ?_)
        obtain ⟨v_28, ev_28⟩ : ∃ z : Int32, x_9 + Int32.ofInt (1) = z := ⟨_, rfl⟩
        have hv_28 : v_28.toInt = x_9.toInt + (1) := by rw [← ev_28]; exact incE rfl (by decide) (by omega)
        refine lv_iinc (pc := 143) (v := v_28) (lv' := [(3, .int v_28), (0, .ref M), (1, .int 4), (2, .int z_n)]) E.1 E.2.1 dX12_takesOther_143 hl13 (k := 0) rfl ev_28 (by decide) rfl (fun ls hl29 => ?_)
        refine lv_goto (pc := 146) (tgt := 122) E.1 E.2.1 dX12_takesOther_146 (by decide) ?_
        exact ih_11 v_28 g_26 _ _ _ ⟨(by show 0 ≤ v_28.toInt; omega), (by show v_28.toInt ≤ z_n.toInt; omega), (MV_step (i := x_9) (j := v_28) (m := 200) hi_10_2 eg_26 ev_25 (by omega) (by omega) (by omega) (by omega) (by omega) (by omega))⟩ (by omega) hw27 (lv_sub hl29 [0, 1, 2, 3] rfl)
  exact loop_8 (Int.toNat (z_n.toInt - 0) + 1) 0 (mf 50) _ _ _ ⟨(by show 0 ≤ (0 : Int32).toInt; have k_0 : (0 : Int32).toInt = 0 := (by decide +kernel); omega), (by show (0 : Int32).toInt ≤ z_n.toInt; have k_0 : (0 : Int32).toInt = 0 := (by decide +kernel); omega), (MV_nil (by decide +kernel))⟩ (by have k_0 : (0 : Int32).toInt = 0 := (by decide +kernel); omega) hw1 (lv_sub hl7 [0, 1, 2, 3] rfl)
set_option maxHeartbeats 4000000 in
set_option maxRecDepth 100000 in
theorem s_text2U (l : Launch) (D : va_G) (cI cJ : ClassId) (sz M : Nat) (mr : Nat → Nat) (mi : Nat → Int32) (mf : Nat → Nat → Int32) (mg : Nat → Nat → Int64)  (h0 : 0 ≤ (mi 21).toInt ∧ (mi 21).toInt ≤ 400) (h1 : ((mf 26) 153).toInt = 32) (h2 : 0 ≤ (mi 6).toInt ∧ (mi 6).toInt ≤ 10) (h3 : 0 ≤ ((mf 27) 0).toInt) (h4 : ((mf 27) 0).toInt ≤ 16) (h5 : 0 ≤ ((mf 27) 1).toInt) (h6 : ((mf 27) 1).toInt ≤ 16) (h7 : 0 ≤ (mi 49).toInt ∧ (mi 49).toInt ≤ 200) (h8 : 0 ≤ (mi 3).toInt ∧ (mi 3).toInt ≤ 6) (h9 : 0 ≤ (mi 42).toInt ∧ (mi 42).toInt ≤ 40) (h10 : 0 ≤ (mi 44).toInt ∧ (mi 44).toInt ≤ 10) (a_paths : pathsOK (mf 43)) (a_tape : b255 (mf 20)) (lf_words : (∀ j : Nat, j < 154 → (mf 26) j = w0 j)) (lf_rows : rowsOK (mi 3).toInt (mi 6).toInt (mf 2)) (lf_kept : RKN (mi 3).toInt (((mf 1) 0).toInt) (mf 2)) (lf_keptD : RKD (mi 3).toInt ((mf 1) 1) (mi 12).toInt (mf 2)) : Met l yX12_text (Cond.code yX12_text cX12_text 3 (some .int) :: GW) ({ frames := 11, cells := 0, slots := 0, locals := 255 } : Room) (va_Pc [.ref M, .int 2] (PW D cI cJ sz (MW cI cJ M mr mi mf mg) xT)) (va_Qi (fun (r : Int32) (u : Int32 × Int32 × Int32 × Int32 × Int32 × Int32 × Int32 × Int32 × Int32 × Int32 × Int32 × Int32 × Int32 × (Nat → Int32) × Int32 × Int32) => (u.2.2.2.2.2.2.1.toInt = 0) ∧ (0 ≤ u.2.2.2.2.2.2.2.2.2.2.2.2.2.2.1.toInt) ∧ (u.2.2.2.2.2.2.2.2.2.2.2.2.2.2.1.toInt ≤ 40) ∧ (0 ≤ u.2.2.2.2.2.2.2.2.2.2.2.2.2.2.2.toInt) ∧ (u.2.2.2.2.2.2.2.2.2.2.2.2.2.2.2.toInt ≤ 6) ∧ (pathsOK u.2.2.2.2.2.2.2.2.2.2.2.2.2.1) ∧ (rowsOK u.2.2.2.2.2.2.2.2.2.2.2.2.2.2.2.toInt (mi 6).toInt (mf 2)) ∧ (RKN u.2.2.2.2.2.2.2.2.2.2.2.2.2.2.2.toInt (((mf 1) 0).toInt) (mf 2)) ∧ (RKD u.2.2.2.2.2.2.2.2.2.2.2.2.2.2.2.toInt ((mf 1) 1) (mi 12).toInt (mf 2)) ∧ (TXO (rdR (mf 20) (mi 21).toInt (pathR (mf 20) (mi 21).toInt ((mi 6).toInt - 1)) 16 40 41 0 0) (r : Int32).toInt (mi 3).toInt u.2.2.2.2.2.2.2.2.2.2.2.2.2.2.2.toInt u.2.1.toInt u.2.2.1.toInt)) (fun u => QW D cI cJ (va_A (MW cI cJ M mr mi mf mg) sz) ((fun (u : Int32 × Int32 × Int32 × Int32 × Int32 × Int32 × Int32 × Int32 × Int32 × Int32 × Int32 × Int32 × Int32 × (Nat → Int32) × Int32 × Int32) => (MW cI cJ M mr (upd (upd (upd (upd (upd (upd (upd (upd (upd (upd (upd (upd (upd (upd (upd mi 0 u.1) 40 u.2.1) 41 u.2.2.1) 22 u.2.2.2.1) 34 u.2.2.2.2.1) 35 u.2.2.2.2.2.1) 21 u.2.2.2.2.2.2.1) 23 u.2.2.2.2.2.2.2.1) 24 u.2.2.2.2.2.2.2.2.1) 25 u.2.2.2.2.2.2.2.2.2.1) 38 u.2.2.2.2.2.2.2.2.2.2.1) 39 u.2.2.2.2.2.2.2.2.2.2.2.1) 33 u.2.2.2.2.2.2.2.2.2.2.2.2.1) 42 u.2.2.2.2.2.2.2.2.2.2.2.2.2.2.1) 3 u.2.2.2.2.2.2.2.2.2.2.2.2.2.2.2) (va_up mf 43 u.2.2.2.2.2.2.2.2.2.2.2.2.2.1) mg)) u)) (va_A (MW cI cJ M mr mi mf mg) sz)) 0 0 (va_A (MW cI cJ M mr mi mf mg) sz) := by
  refine mk_met (y := yX12_text) (bytes := cX12_text) (maxL := 3) (avs := [.ref M, .int 2]) (WS := (MW cI cJ M mr mi mf mg)) (Qf := fun A => va_Qi (fun (r : Int32) (u : Int32 × Int32 × Int32 × Int32 × Int32 × Int32 × Int32 × Int32 × Int32 × Int32 × Int32 × Int32 × Int32 × (Nat → Int32) × Int32 × Int32) => (u.2.2.2.2.2.2.1.toInt = 0) ∧ (0 ≤ u.2.2.2.2.2.2.2.2.2.2.2.2.2.2.1.toInt) ∧ (u.2.2.2.2.2.2.2.2.2.2.2.2.2.2.1.toInt ≤ 40) ∧ (0 ≤ u.2.2.2.2.2.2.2.2.2.2.2.2.2.2.2.toInt) ∧ (u.2.2.2.2.2.2.2.2.2.2.2.2.2.2.2.toInt ≤ 6) ∧ (pathsOK u.2.2.2.2.2.2.2.2.2.2.2.2.2.1) ∧ (rowsOK u.2.2.2.2.2.2.2.2.2.2.2.2.2.2.2.toInt (mi 6).toInt (mf 2)) ∧ (RKN u.2.2.2.2.2.2.2.2.2.2.2.2.2.2.2.toInt (((mf 1) 0).toInt) (mf 2)) ∧ (RKD u.2.2.2.2.2.2.2.2.2.2.2.2.2.2.2.toInt ((mf 1) 1) (mi 12).toInt (mf 2)) ∧ (TXO (rdR (mf 20) (mi 21).toInt (pathR (mf 20) (mi 21).toInt ((mi 6).toInt - 1)) 16 40 41 0 0) (r : Int32).toInt (mi 3).toInt u.2.2.2.2.2.2.2.2.2.2.2.2.2.2.2.toInt u.2.1.toInt u.2.2.1.toInt)) (fun u => QW D cI cJ A ((fun (u : Int32 × Int32 × Int32 × Int32 × Int32 × Int32 × Int32 × Int32 × Int32 × Int32 × Int32 × Int32 × Int32 × (Nat → Int32) × Int32 × Int32) => (MW cI cJ M mr (upd (upd (upd (upd (upd (upd (upd (upd (upd (upd (upd (upd (upd (upd (upd mi 0 u.1) 40 u.2.1) 41 u.2.2.1) 22 u.2.2.2.1) 34 u.2.2.2.2.1) 35 u.2.2.2.2.2.1) 21 u.2.2.2.2.2.2.1) 23 u.2.2.2.2.2.2.2.1) 24 u.2.2.2.2.2.2.2.2.1) 25 u.2.2.2.2.2.2.2.2.2.1) 38 u.2.2.2.2.2.2.2.2.2.2.1) 39 u.2.2.2.2.2.2.2.2.2.2.2.1) 33 u.2.2.2.2.2.2.2.2.2.2.2.2.1) 42 u.2.2.2.2.2.2.2.2.2.2.2.2.2.2.1) 3 u.2.2.2.2.2.2.2.2.2.2.2.2.2.2.2) (va_up mf 43 u.2.2.2.2.2.2.2.2.2.2.2.2.2.1) mg)) u)) A) (by decide) (Nat.le_of_ble_eq_true rfl) ?_
  intro p e s m below meth c A ls E hr hlk hnm hX hw1 hl2
  have hl3 : lv_has ls 3 [(0, .ref M), (1, .int 2)] := hl2
  refine lv_aload_n (pc := 0) E.1 E.2.1 dX12_text_0 rfl (lv_at hl3 0 rfl) ?_
  refine lv_iconst (pc := 1) (v := 0) E.1 E.2.1 dX12_text_1 (by decide +kernel) ?_
  refine x_put (pc := 2) (T := TX12) (N := 70) (ci := 12) (ws' := (MW cI cJ M mr (upd mi 0 0) mf mg)) E hw1 inX12 tyX12_ok nmX12 0 0 q_1399 rfl rfl (by decide) rfl rfl rfl rfl (Nat.le_of_ble_eq_true rfl) rfl dX12_text_2 (fun H locs hw4 => ?_)
  refine lv_aload_n (pc := 5) E.1 E.2.1 dX12_text_5 rfl (lv_at hl3 0 rfl) ?_
  refine lv_iconst (pc := 6) (v := 0) E.1 E.2.1 dX12_text_6 (by decide +kernel) ?_
  refine x_put (pc := 7) (T := TX12) (N := 70) (ci := 12) (ws' := (MW cI cJ M mr (upd (upd mi 0 0) 40 0) mf mg)) E hw4 inX12 tyX12_ok nmX12 0 40 q_1439 rfl rfl (by decide) rfl rfl rfl rfl (Nat.le_of_ble_eq_true rfl) rfl dX12_text_7 (fun H locs hw5 => ?_)
  refine lv_aload_n (pc := 10) E.1 E.2.1 dX12_text_10 rfl (lv_at hl3 0 rfl) ?_
  refine lv_iconst (pc := 11) (v := (-1)) E.1 E.2.1 dX12_text_11 (by decide +kernel) ?_
  refine x_put (pc := 12) (T := TX12) (N := 70) (ci := 12) (ws' := (MW cI cJ M mr (upd (upd (upd mi 0 0) 40 0) 41 (-1)) mf mg)) E hw5 inX12 tyX12_ok nmX12 0 41 q_1440 rfl rfl (by decide) rfl rfl rfl rfl (Nat.le_of_ble_eq_true rfl) rfl dX12_text_12 (fun H locs hw6 => ?_)
  refine lv_aload_n (pc := 15) E.1 E.2.1 dX12_text_15 rfl (lv_at hl3 0 rfl) ?_
  refine lv_iconst (pc := 16) (v := 0) E.1 E.2.1 dX12_text_16 (by decide +kernel) ?_
  refine x_put (pc := 17) (T := TX12) (N := 70) (ci := 12) (ws' := (MW cI cJ M mr (upd (upd (upd (upd mi 0 0) 22 0) 40 0) 41 (-1)) mf mg)) E hw6 inX12 tyX12_ok nmX12 0 22 q_1421 rfl rfl (by decide) rfl rfl rfl rfl (Nat.le_of_ble_eq_true rfl) rfl dX12_text_17 (fun H locs hw7 => ?_)
  refine lv_aload_n (pc := 20) E.1 E.2.1 dX12_text_20 rfl (lv_at hl3 0 rfl) ?_
  refine lv_iconst (pc := 21) (v := 0) E.1 E.2.1 dX12_text_21 (by decide +kernel) ?_
  refine x_put (pc := 22) (T := TX12) (N := 70) (ci := 12) (ws' := (MW cI cJ M mr (upd (upd (upd (upd (upd mi 0 0) 22 0) 34 0) 40 0) 41 (-1)) mf mg)) E hw7 inX12 tyX12_ok nmX12 0 34 q_1433 rfl rfl (by decide) rfl rfl rfl rfl (Nat.le_of_ble_eq_true rfl) rfl dX12_text_22 (fun H locs hw8 => ?_)
  refine lv_aload_n (pc := 25) E.1 E.2.1 dX12_text_25 rfl (lv_at hl3 0 rfl) ?_
  refine lv_iconst (pc := 26) (v := 0) E.1 E.2.1 dX12_text_26 (by decide +kernel) ?_
  refine x_put (pc := 27) (T := TX12) (N := 70) (ci := 12) (ws' := (MW cI cJ M mr (upd (upd (upd (upd (upd (upd mi 0 0) 22 0) 34 0) 35 0) 40 0) 41 (-1)) mf mg)) E hw8 inX12 tyX12_ok nmX12 0 35 q_1434 rfl rfl (by decide) rfl rfl rfl rfl (Nat.le_of_ble_eq_true rfl) rfl dX12_text_27 (fun H locs hw9 => ?_)
  refine lv_iconst (pc := 30) (v := (-1)) E.1 E.2.1 dX12_text_30 (by decide +kernel) ?_
  refine lv_istore_n (pc := 31) (lv' := [(2, .int (-1)), (0, .ref M), (1, .int 2)]) E.1 E.2.1 dX12_text_31 rfl hl3 (by decide) rfl (fun ls hl10 => ?_)
  refine lv_aload_n (pc := 32) E.1 E.2.1 dX12_text_32 rfl (lv_at hl10 1 rfl) ?_
  refine lv_iload_n (pc := 33) E.1 E.2.1 dX12_text_33 rfl (lv_at hl10 2 rfl) ?_
  refine lv_iconst (pc := 34) (v := 0) E.1 E.2.1 dX12_text_34 (by decide +kernel) ?_
  refine lv_iconst (pc := 35) (v := 4) E.1 E.2.1 dX12_text_35 (by decide +kernel) ?_
  refine cm_i (pc := 36) hw9 (rn_M (As := [.int 2, .int 0, .int 4]) (rest := []) E hw9 (s_isIn l D cI cJ _ M mr (upd (upd (upd (upd (upd (upd mi 0 0) 22 0) 34 0) 35 0) 40 0) 41 (-1)) mf mg 2 0 4) (gdV q_1622 q_1624 q_46 q_162 q_1625) hdV_X12_isIn ⟨rfl, rfl⟩ ⟨(Nat.le_of_ble_eq_true rfl), (Nat.le_of_ble_eq_true rfl)⟩ ⟨(Nat.le_of_ble_eq_true rfl), (Nat.le_of_ble_eq_true rfl)⟩ 12 rfl rfl rfl rfl hl10.1 rfl (Nat.le_of_ble_eq_true rfl) dX12_text_36) (fun r_12 u_11 H1 locs hp hw13 => ?_)
  generalize H1 = H at hw13 ⊢
  have hw14 : WD D A s.heap (MW cI cJ M mr (upd (upd (upd (upd (upd (upd mi 0 0) 22 0) 34 0) 35 0) 40 0) 41 (-1)) mf mg) H locs := hw13
  have hp_15 := hp
  rcases hp_15 with ⟨rfl, ha_16⟩ | ⟨rfl, ha_17⟩ | ⟨rfl, ha_18, ha_19⟩
  · skip
    have ha_16 : (2 : Int32).toInt < (0 : Int32).toInt := ha_16
    rw [show (2 : Int32).toInt = 2 from by decide +kernel] at ha_16
    rw [show (0 : Int32).toInt = 0 from by decide +kernel] at ha_16
    exfalso; omega
  · skip
    have ha_17 : (4 : Int32).toInt < (2 : Int32).toInt := ha_17
    rw [show (2 : Int32).toInt = 2 from by decide +kernel] at ha_17
    rw [show (4 : Int32).toInt = 4 from by decide +kernel] at ha_17
    exfalso; omega
  · skip
    have ha_18 : (0 : Int32).toInt ≤ (2 : Int32).toInt := ha_18
    rw [show (2 : Int32).toInt = 2 from by decide +kernel] at ha_18
    rw [show (0 : Int32).toInt = 0 from by decide +kernel] at ha_18
    have ha_19 : (2 : Int32).toInt ≤ (4 : Int32).toInt := ha_19
    rw [show (2 : Int32).toInt = 2 from by decide +kernel] at ha_19
    rw [show (4 : Int32).toInt = 4 from by decide +kernel] at ha_19
    refine lv_if_eq (pc := 39) (tgt := 69) E.1 E.2.1 dX12_text_39 (by decide) (fun c_20 => absurd c_20 (mneE (a := 1) (b := 0) (by decide +kernel) (by decide +kernel) (by omega))) (fun _ => ?_)
    refine lv_aload_n (pc := 42) E.1 E.2.1 dX12_text_42 rfl (lv_at hl10 1 rfl) ?_
    refine lv_iload_n (pc := 43) E.1 E.2.1 dX12_text_43 rfl (lv_at hl10 2 rfl) ?_
    refine cm_i (pc := 44) hw14 (rn_M (As := [.int 2]) (rest := []) E hw14 (s_readsText2U l D cI cJ _ M mr (upd (upd (upd (upd (upd (upd mi 0 0) 22 0) 34 0) 35 0) 40 0) 41 (-1)) mf mg (by show 0 ≤ (0 : Int32).toInt; have k_1 : (0 : Int32).toInt = 0 := (by decide +kernel); omega) (by show (0 : Int32).toInt ≤ (mi 21).toInt; have k_1 : (0 : Int32).toInt = 0 := (by decide +kernel); omega) h0.2 h1 h2 (by show (0 : Int32).toInt = 0; have k_1 : (0 : Int32).toInt = 0 := (by decide +kernel); omega) a_paths a_tape (show (∀ j : Nat, j < 154 → (mf 26) j = w0 j) from lf_words)) (gdV q_1662 q_1664 q_51 q_162 q_1665) hdV_X12_readsText ⟨rfl, rfl⟩ ⟨(Nat.le_of_ble_eq_true rfl), (Nat.le_of_ble_eq_true rfl)⟩ ⟨(Nat.le_of_ble_eq_true rfl), (Nat.le_of_ble_eq_true rfl)⟩ 12 rfl rfl rfl rfl hl10.1 rfl (Nat.le_of_ble_eq_true rfl) dX12_text_44) (fun r_22 u_21 H1 locs hp hw23 => ?_)
    obtain ⟨nspot_24, nfrom_25, ntoken_26, nvalue_27, nreadFault_28, nreadPlace_29, nwhich_30, gpaths_31⟩ := u_21
    generalize H1 = H at hw23 ⊢
    have hw32 : WD D A s.heap (MW cI cJ M mr (upd (upd (upd (upd (upd (upd (upd (upd (upd (upd (upd (upd mi 0 0) 22 nspot_24) 23 nfrom_25) 24 ntoken_26) 25 nvalue_27) 33 nwhich_30) 34 0) 35 0) 38 nreadFault_28) 39 nreadPlace_29) 40 0) 41 (-1)) (va_up mf 43 gpaths_31) mg) H locs := hw23
    obtain ⟨hp_33, hp_34, hp_35, hp_36⟩ := hp
    have hp_34 : (0 ≤ (r_22 : Int32).toInt → PD gpaths_31 (r_22 : Int32).toInt) := hp_34
    have hp_35 : RC (rdR (mf 20) (mi 21).toInt (pathR (mf 20) (mi 21).toInt ((mi 6).toInt - 1)) 16 40 41 0 0) (r_22 : Int32).toInt nreadFault_28.toInt nreadPlace_29.toInt := hp_35
    rcases hp_36 with rfl | ⟨ha_37, ha_38⟩
    · skip
      refine lv_istore_n (pc := 47) (lv' := [(2, .int (-1)), (0, .ref M), (1, .int 2)]) E.1 E.2.1 dX12_text_47 rfl hl10 (by decide) rfl (fun ls hl39 => ?_)
      refine lv_iload_n (pc := 48) E.1 E.2.1 dX12_text_48 rfl (lv_at hl39 0 rfl) ?_
      refine lv_iconst (pc := 49) (v := (-1)) E.1 E.2.1 dX12_text_49 (by decide +kernel) ?_
      refine lv_icmp_ne (pc := 50) (tgt := 69) E.1 E.2.1 dX12_text_50 (by decide) (fun c_40 => absurd (meqE (a := (-1)) (b := (-1)) (by decide +kernel) (by decide +kernel) (by omega)) c_40) (fun _ => ?_)
      refine lv_aload_n (pc := 53) E.1 E.2.1 dX12_text_53 rfl (lv_at hl39 1 rfl) ?_
      refine lv_aload_n (pc := 54) E.1 E.2.1 dX12_text_54 rfl (lv_at hl39 1 rfl) ?_
      refine x_get (pc := 55) (T := TX12) (N := 70) (ci := 12) (v := .int nreadFault_28) E hw32 inX12 0 38 q_1437 rfl rfl (by decide) rfl rfl dX12_text_55 ?_
      refine x_put (pc := 58) (T := TX12) (N := 70) (ci := 12) (ws' := (MW cI cJ M mr (upd (upd (upd (upd (upd (upd (upd (upd (upd (upd (upd (upd mi 0 0) 22 nspot_24) 23 nfrom_25) 24 ntoken_26) 25 nvalue_27) 33 nwhich_30) 34 0) 35 0) 38 nreadFault_28) 39 nreadPlace_29) 40 nreadFault_28) 41 (-1)) (va_up mf 43 gpaths_31) mg)) E hw32 inX12 tyX12_ok nmX12 0 40 q_1439 rfl rfl (by decide) rfl rfl rfl rfl (Nat.le_of_ble_eq_true rfl) rfl dX12_text_58 (fun H locs hw41 => ?_)
      refine lv_aload_n (pc := 61) E.1 E.2.1 dX12_text_61 rfl (lv_at hl39 1 rfl) ?_
      refine lv_aload_n (pc := 62) E.1 E.2.1 dX12_text_62 rfl (lv_at hl39 1 rfl) ?_
      refine x_get (pc := 63) (T := TX12) (N := 70) (ci := 12) (v := .int nreadPlace_29) E hw41 inX12 0 39 q_1438 rfl rfl (by decide) rfl rfl dX12_text_63 ?_
      refine x_put (pc := 66) (T := TX12) (N := 70) (ci := 12) (ws' := (MW cI cJ M mr (upd (upd (upd (upd (upd (upd (upd (upd (upd (upd (upd (upd mi 0 0) 22 nspot_24) 23 nfrom_25) 24 ntoken_26) 25 nvalue_27) 33 nwhich_30) 34 0) 35 0) 38 nreadFault_28) 39 nreadPlace_29) 40 nreadFault_28) 41 nreadPlace_29) (va_up mf 43 gpaths_31) mg)) E hw41 inX12 tyX12_ok nmX12 0 41 q_1440 rfl rfl (by decide) rfl rfl rfl rfl (Nat.le_of_ble_eq_true rfl) rfl dX12_text_66 (fun H locs hw42 => ?_)
      refine lv_aload_n (pc := 69) E.1 E.2.1 dX12_text_69 rfl (lv_at hl39 1 rfl) ?_
      refine lv_iconst (pc := 70) (v := 0) E.1 E.2.1 dX12_text_70 (by decide +kernel) ?_
      refine x_put (pc := 71) (T := TX12) (N := 70) (ci := 12) (ws' := (MW cI cJ M mr (upd (upd (upd (upd (upd (upd (upd (upd (upd (upd (upd (upd (upd mi 0 0) 21 0) 22 nspot_24) 23 nfrom_25) 24 ntoken_26) 25 nvalue_27) 33 nwhich_30) 34 0) 35 0) 38 nreadFault_28) 39 nreadPlace_29) 40 nreadFault_28) 41 nreadPlace_29) (va_up mf 43 gpaths_31) mg)) E hw42 inX12 tyX12_ok nmX12 0 21 q_1420 rfl rfl (by decide) rfl rfl rfl rfl (Nat.le_of_ble_eq_true rfl) rfl dX12_text_71 (fun H locs hw43 => ?_)
      refine lv_iload_n (pc := 74) E.1 E.2.1 dX12_text_74 rfl (lv_at hl39 0 rfl) ?_
      refine lv_iconst (pc := 75) (v := (-1)) E.1 E.2.1 dX12_text_75 (by decide +kernel) ?_
      refine lv_icmp_ne (pc := 76) (tgt := 81) E.1 E.2.1 dX12_text_76 (by decide) (fun c_44 => absurd (meqE (a := (-1)) (b := (-1)) (by decide +kernel) (by decide +kernel) (by omega)) c_44) (fun _ => ?_)
      refine lv_iconst (pc := 79) (v := (-1)) E.1 E.2.1 dX12_text_79 (by decide +kernel) ?_
      exact em_i (w1 := (fun (u : Int32 × Int32 × Int32 × Int32 × Int32 × Int32 × Int32 × Int32 × Int32 × Int32 × Int32 × Int32 × Int32 × (Nat → Int32) × Int32 × Int32) => (MW cI cJ M mr (upd (upd (upd (upd (upd (upd (upd (upd (upd (upd (upd (upd (upd (upd (upd mi 0 u.1) 40 u.2.1) 41 u.2.2.1) 22 u.2.2.2.1) 34 u.2.2.2.2.1) 35 u.2.2.2.2.2.1) 21 u.2.2.2.2.2.2.1) 23 u.2.2.2.2.2.2.2.1) 24 u.2.2.2.2.2.2.2.2.1) 25 u.2.2.2.2.2.2.2.2.2.1) 38 u.2.2.2.2.2.2.2.2.2.2.1) 39 u.2.2.2.2.2.2.2.2.2.2.2.1) 33 u.2.2.2.2.2.2.2.2.2.2.2.2.1) 42 u.2.2.2.2.2.2.2.2.2.2.2.2.2.2.1) 3 u.2.2.2.2.2.2.2.2.2.2.2.2.2.2.2) (va_up mf 43 u.2.2.2.2.2.2.2.2.2.2.2.2.2.1) mg))) E hr hlk (0, nreadFault_28, nreadPlace_29, nspot_24, 0, 0, 0, nfrom_25, ntoken_26, nvalue_27, nreadFault_28, nreadPlace_29, nwhich_30, gpaths_31, (mi 42), (mi 3)) hw43 ⟨(by show (0 : Int32).toInt = 0; have k_0 : (0 : Int32).toInt = 0 := (by decide +kernel); have k_1 : (0 : Int32).toInt = 0 := (by decide +kernel); have k_2 : (0 : Int32).toInt = 0 := (by decide +kernel); have k_3 : (0 : Int32).toInt = 0 := (by decide +kernel); have k_4 : ((-1) : Int32).toInt = -1 := (by decide +kernel); omega), h9.1, h9.2, h8.1, h8.2, hp_33, lf_rows, (show RKN (mi 3).toInt (((mf 1) 0).toInt) (mf 2) from lf_kept), (show RKD (mi 3).toInt ((mf 1) 1) (mi 12).toInt (mf 2) from lf_keptD), (show TXO (rdR (mf 20) (mi 21).toInt (pathR (mf 20) (mi 21).toInt ((mi 6).toInt - 1)) 16 40 41 0 0) ((-1) : Int32).toInt (mi 3).toInt (mi 3).toInt nreadFault_28.toInt nreadPlace_29.toInt from (TXO_no hp_35 (by decide +kernel) (by decide +kernel) (by omega) rfl rfl))⟩ (Nat.le_of_ble_eq_true rfl) (Nat.le_of_ble_eq_true rfl) dX12_text_80
    · skip
      have ha_37 : 0 ≤ r_22.toInt := ha_37
      have ha_38 : r_22.toInt ≤ 40 := ha_38
      refine lv_istore_n (pc := 47) (lv' := [(2, .int r_22), (0, .ref M), (1, .int 2)]) E.1 E.2.1 dX12_text_47 rfl hl10 (by decide) rfl (fun ls hl45 => ?_)
      refine lv_iload_n (pc := 48) E.1 E.2.1 dX12_text_48 rfl (lv_at hl45 0 rfl) ?_
      refine lv_iconst (pc := 49) (v := (-1)) E.1 E.2.1 dX12_text_49 (by decide +kernel) ?_
      refine lv_icmp_ne (pc := 50) (tgt := 69) E.1 E.2.1 dX12_text_50 (by decide) (fun _ => ?_) (fun c_46 => absurd c_46 (mneE (a := r_22.toInt) (b := (-1)) rfl (by decide +kernel) (by omega)))
      refine lv_aload_n (pc := 69) E.1 E.2.1 dX12_text_69 rfl (lv_at hl45 1 rfl) ?_
      refine lv_iconst (pc := 70) (v := 0) E.1 E.2.1 dX12_text_70 (by decide +kernel) ?_
      refine x_put (pc := 71) (T := TX12) (N := 70) (ci := 12) (ws' := (MW cI cJ M mr (upd (upd (upd (upd (upd (upd (upd (upd (upd (upd (upd (upd (upd mi 0 0) 21 0) 22 nspot_24) 23 nfrom_25) 24 ntoken_26) 25 nvalue_27) 33 nwhich_30) 34 0) 35 0) 38 nreadFault_28) 39 nreadPlace_29) 40 0) 41 (-1)) (va_up mf 43 gpaths_31) mg)) E hw32 inX12 tyX12_ok nmX12 0 21 q_1420 rfl rfl (by decide) rfl rfl rfl rfl (Nat.le_of_ble_eq_true rfl) rfl dX12_text_71 (fun H locs hw47 => ?_)
      refine lv_iload_n (pc := 74) E.1 E.2.1 dX12_text_74 rfl (lv_at hl45 0 rfl) ?_
      refine lv_iconst (pc := 75) (v := (-1)) E.1 E.2.1 dX12_text_75 (by decide +kernel) ?_
      refine lv_icmp_ne (pc := 76) (tgt := 81) E.1 E.2.1 dX12_text_76 (by decide) (fun _ => ?_) (fun c_48 => absurd c_48 (mneE (a := r_22.toInt) (b := (-1)) rfl (by decide +kernel) (by omega)))
      refine lv_iload_n (pc := 81) E.1 E.2.1 dX12_text_81 rfl (lv_at hl45 2 rfl) ?_
      refine lv_iconst (pc := 82) (v := 1) E.1 E.2.1 dX12_text_82 (by decide +kernel) ?_
      refine lv_icmp_gt (pc := 83) (tgt := 94) E.1 E.2.1 dX12_text_83 (by decide) (fun _ => ?_) (fun c_49 => absurd (mltE (a := 1) (b := 2) (by decide +kernel) (by decide +kernel) (by omega)) c_49)
      refine lv_aload_n (pc := 94) E.1 E.2.1 dX12_text_94 rfl (lv_at hl45 1 rfl) ?_
      refine lv_iload_n (pc := 95) E.1 E.2.1 dX12_text_95 rfl (lv_at hl45 2 rfl) ?_
      refine lv_iload_n (pc := 96) E.1 E.2.1 dX12_text_96 rfl (lv_at hl45 0 rfl) ?_
      refine cm_v (pc := 97) hw47 (rn_M (As := [.int 2, .int r_22]) (rest := []) E hw47 (s_takesOther2U l D cI cJ _ M mr (upd (upd (upd (upd (upd (upd (upd (upd (upd (upd (upd (upd (upd mi 0 0) 21 0) 22 nspot_24) 23 nfrom_25) 24 ntoken_26) 25 nvalue_27) 33 nwhich_30) 34 0) 35 0) 38 nreadFault_28) 39 nreadPlace_29) 40 0) 41 (-1)) (va_up mf 43 gpaths_31) mg r_22 (by show 0 ≤ r_22.toInt ∧ r_22.toInt ≤ 40; omega) hp_33 (show PD gpaths_31 r_22.toInt from (hp_34 (by omega)))) (gdV q_1810 q_1812 q_88 q_162 q_1813) hdV_X12_takesOther ⟨rfl, rfl⟩ ⟨(Nat.le_of_ble_eq_true rfl), (Nat.le_of_ble_eq_true rfl)⟩ ⟨(Nat.le_of_ble_eq_true rfl), (Nat.le_of_ble_eq_true rfl)⟩ 12 rfl rfl rfl rfl hl45.1 rfl (Nat.le_of_ble_eq_true rfl) dX12_text_97) (fun u_50 H1 locs hp hw52 => ?_)
      obtain ⟨gpaths_53, npathMany_54, nundoable_55⟩ := u_50
      generalize H1 = H at hw52 ⊢
      have hw56 : WD D A s.heap (MW cI cJ M mr (upd (upd (upd (upd (upd (upd (upd (upd (upd (upd (upd (upd (upd (upd (upd mi 0 0) 3 nundoable_55) 21 0) 22 nspot_24) 23 nfrom_25) 24 ntoken_26) 25 nvalue_27) 33 nwhich_30) 34 0) 35 0) 38 nreadFault_28) 39 nreadPlace_29) 40 0) 41 (-1)) 42 npathMany_54) (va_up mf 43 gpaths_53) mg) H locs := hw52
      obtain ⟨hp_57, hp_58, hp_59, hp_60, hp_61, hp_62⟩ := hp
      have hp_57 : npathMany_54.toInt = r_22.toInt := hp_57
      have hp_58 : nundoable_55.toInt = 0 := hp_58
      have hp_60 : rowsOK nundoable_55.toInt (mi 6).toInt (mf 2) := hp_60
      have hp_61 : RKN nundoable_55.toInt (((mf 1) 0).toInt) (mf 2) := hp_61
      have hp_62 : RKD nundoable_55.toInt ((mf 1) 1) (mi 12).toInt (mf 2) := hp_62
      refine lv_iload_n (pc := 100) E.1 E.2.1 dX12_text_100 rfl (lv_at hl45 0 rfl) ?_
      exact em_i (w1 := (fun (u : Int32 × Int32 × Int32 × Int32 × Int32 × Int32 × Int32 × Int32 × Int32 × Int32 × Int32 × Int32 × Int32 × (Nat → Int32) × Int32 × Int32) => (MW cI cJ M mr (upd (upd (upd (upd (upd (upd (upd (upd (upd (upd (upd (upd (upd (upd (upd mi 0 u.1) 40 u.2.1) 41 u.2.2.1) 22 u.2.2.2.1) 34 u.2.2.2.2.1) 35 u.2.2.2.2.2.1) 21 u.2.2.2.2.2.2.1) 23 u.2.2.2.2.2.2.2.1) 24 u.2.2.2.2.2.2.2.2.1) 25 u.2.2.2.2.2.2.2.2.2.1) 38 u.2.2.2.2.2.2.2.2.2.2.1) 39 u.2.2.2.2.2.2.2.2.2.2.2.1) 33 u.2.2.2.2.2.2.2.2.2.2.2.2.1) 42 u.2.2.2.2.2.2.2.2.2.2.2.2.2.2.1) 3 u.2.2.2.2.2.2.2.2.2.2.2.2.2.2.2) (va_up mf 43 u.2.2.2.2.2.2.2.2.2.2.2.2.2.1) mg))) E hr hlk (0, 0, (-1), nspot_24, 0, 0, 0, nfrom_25, ntoken_26, nvalue_27, nreadFault_28, nreadPlace_29, nwhich_30, gpaths_53, npathMany_54, nundoable_55) hw56 ⟨(by show (0 : Int32).toInt = 0; have k_0 : (0 : Int32).toInt = 0 := (by decide +kernel); have k_1 : (0 : Int32).toInt = 0 := (by decide +kernel); have k_2 : (0 : Int32).toInt = 0 := (by decide +kernel); have k_3 : (0 : Int32).toInt = 0 := (by decide +kernel); have k_4 : (0 : Int32).toInt = 0 := (by decide +kernel); have k_5 : ((-1) : Int32).toInt = -1 := (by decide +kernel); omega), (by show 0 ≤ npathMany_54.toInt; have k_0 : (0 : Int32).toInt = 0 := (by decide +kernel); have k_1 : (0 : Int32).toInt = 0 := (by decide +kernel); have k_2 : (0 : Int32).toInt = 0 := (by decide +kernel); have k_3 : (0 : Int32).toInt = 0 := (by decide +kernel); have k_4 : (0 : Int32).toInt = 0 := (by decide +kernel); have k_5 : ((-1) : Int32).toInt = -1 := (by decide +kernel); omega), (by show npathMany_54.toInt ≤ 40; have k_0 : (0 : Int32).toInt = 0 := (by decide +kernel); have k_1 : (0 : Int32).toInt = 0 := (by decide +kernel); have k_2 : (0 : Int32).toInt = 0 := (by decide +kernel); have k_3 : (0 : Int32).toInt = 0 := (by decide +kernel); have k_4 : (0 : Int32).toInt = 0 := (by decide +kernel); have k_5 : ((-1) : Int32).toInt = -1 := (by decide +kernel); omega), (by show 0 ≤ nundoable_55.toInt; have k_0 : (0 : Int32).toInt = 0 := (by decide +kernel); have k_1 : (0 : Int32).toInt = 0 := (by decide +kernel); have k_2 : (0 : Int32).toInt = 0 := (by decide +kernel); have k_3 : (0 : Int32).toInt = 0 := (by decide +kernel); have k_4 : (0 : Int32).toInt = 0 := (by decide +kernel); have k_5 : ((-1) : Int32).toInt = -1 := (by decide +kernel); omega), (by show nundoable_55.toInt ≤ 6; have k_0 : (0 : Int32).toInt = 0 := (by decide +kernel); have k_1 : (0 : Int32).toInt = 0 := (by decide +kernel); have k_2 : (0 : Int32).toInt = 0 := (by decide +kernel); have k_3 : (0 : Int32).toInt = 0 := (by decide +kernel); have k_4 : (0 : Int32).toInt = 0 := (by decide +kernel); have k_5 : ((-1) : Int32).toInt = -1 := (by decide +kernel); omega), hp_59, hp_60, (show RKN nundoable_55.toInt (((mf 1) 0).toInt) (mf 2) from hp_61), (show RKD nundoable_55.toInt ((mf 1) 1) (mi 12).toInt (mf 2) from hp_62), (show TXO (rdR (mf 20) (mi 21).toInt (pathR (mf 20) (mi 21).toInt ((mi 6).toInt - 1)) 16 40 41 0 0) (r_22 : Int32).toInt (mi 3).toInt nundoable_55.toInt (0 : Int32).toInt ((-1) : Int32).toInt from (TXO_yes hp_35 (by omega) (by omega) (by first | omega | decide +kernel) (by first | omega | decide +kernel) (by first | omega | decide +kernel)))⟩ (Nat.le_of_ble_eq_true rfl) (Nat.le_of_ble_eq_true rfl) dX12_text_101
