set_option maxHeartbeats 4000000 in
set_option maxRecDepth 100000 in
theorem s_takesOther2U_D2 (l : Launch) (D : va_G) (cI cJ : ClassId) (sz M : Nat) (mr : Nat → Nat) (mi : Nat → Int32) (mf : Nat → Nat → Int32) (mg : Nat → Nat → Int64) (z_n : Int32) (h0 : 0 ≤ z_n.toInt ∧ z_n.toInt ≤ 40) (a_paths : pathsOK (mf 43)) (x_pd : PD (mf 43) z_n.toInt) : Met l yX12_takesOther (Cond.code yX12_takesOther cX12_takesOther 4 none :: GW) ({ frames := 1, cells := 0, slots := 0, locals := 40 } : Room) (va_Pc [.ref M, .int 2, .int z_n] (PW D cI cJ sz (MW cI cJ M mr mi mf mg) xT)) (va_Qv (fun (u : (Nat → Int32) × Int32 × Int32) => (u.2.1.toInt = z_n.toInt) ∧ (u.2.2.toInt = 0) ∧ (pathsOK u.1) ∧ (rowsOK u.2.2.toInt (mi 6).toInt (mf 2)) ∧ (RKN u.2.2.toInt (((mf 1) 0).toInt) (mf 2)) ∧ (RKD u.2.2.toInt ((mf 1) 1) (mi 12).toInt (mf 2))) (fun u => QW D cI cJ (va_A (MW cI cJ M mr mi mf mg) sz) ((fun (u : (Nat → Int32) × Int32 × Int32) => (MW cI cJ M mr (upd (upd mi 42 u.2.1) 3 u.2.2) (va_up mf 43 u.1) mg)) u)) (va_A (MW cI cJ M mr mi mf mg) sz)) 0 0 (va_A (MW cI cJ M mr mi mf mg) sz) := by
  refine mk_met (y := yX12_takesOther) (bytes := cX12_takesOther) (maxL := 4) (avs := [.ref M, .int 2, .int z_n]) (WS := (MW cI cJ M mr mi mf mg)) (Qf := fun A => va_Qv (fun (u : (Nat → Int32) × Int32 × Int32) => (u.2.1.toInt = z_n.toInt) ∧ (u.2.2.toInt = 0) ∧ (pathsOK u.1) ∧ (rowsOK u.2.2.toInt (mi 6).toInt (mf 2)) ∧ (RKN u.2.2.toInt (((mf 1) 0).toInt) (mf 2)) ∧ (RKD u.2.2.toInt ((mf 1) 1) (mi 12).toInt (mf 2))) (fun u => QW D cI cJ A ((fun (u : (Nat → Int32) × Int32 × Int32) => (MW cI cJ M mr (upd (upd mi 42 u.2.1) 3 u.2.2) (va_up mf 43 u.1) mg)) u)) A) (by decide) (Nat.le_of_ble_eq_true rfl) ?_
  intro p e s m below meth c A ls E hr hlk hnm hX hw1 hl2
  have hl3 : lv_has ls 4 [(0, .ref M), (1, .int 2), (2, .int z_n)] := hl2
  refine lv_iload_n (pc := 0) E.1 E.2.1 dX12_takesOther_0 rfl (lv_at hl3 1 rfl) ?_
  refine lv_iconst (pc := 1) (v := 2) E.1 E.2.1 dX12_takesOther_1 (by decide +kernel) ?_
  refine lv_icmp_ne (pc := 2) (tgt := 41) E.1 E.2.1 dX12_takesOther_2 (by decide) (fun c_4 => absurd (meqE (a := 2) (b := 2) (by decide +kernel) (by decide +kernel) (by omega)) c_4) (fun _ => ?_)
  refine lv_iconst (pc := 5) (v := 0) E.1 E.2.1 dX12_takesOther_5 (by decide +kernel) ?_
  refine lv_istore_n (pc := 6) (lv' := [(3, .int 0), (0, .ref M), (1, .int 2), (2, .int z_n)]) E.1 E.2.1 dX12_takesOther_6 rfl hl3 (by decide) rfl (fun ls hl5 => ?_)
  have loop_6 : ∀ (k : Nat) (x_7 : Int32) (g_8 : Nat → Int32) (H : Heap) (locs : List Loc) (ls : Array Slot), (0 ≤ x_7.toInt) ∧ (x_7.toInt ≤ 4 * z_n.toInt) ∧ (MV g_8 (mf 43) 0 160 x_7.toInt) → 4 * z_n.toInt - x_7.toInt < (k : Int) → WD D A s.heap (MW cI cJ M mr mi (va_up mf 43 g_8) mg) H locs → lv_has ls 4 [(3, .int x_7), (0, .ref M), (1, .int 2), (2, .int z_n)] → W p l e ({ frames := 1, cells := 0, slots := 0, locals := 40 } : Room) s m ([.ref M, .int 2, .int z_n] : List Value).toArray below meth c H locs 0 0 (MQ below (va_Qv (fun (u : (Nat → Int32) × Int32 × Int32) => (u.2.1.toInt = z_n.toInt) ∧ (u.2.2.toInt = 0) ∧ (pathsOK u.1) ∧ (rowsOK u.2.2.toInt (mi 6).toInt (mf 2)) ∧ (RKN u.2.2.toInt (((mf 1) 0).toInt) (mf 2)) ∧ (RKD u.2.2.toInt ((mf 1) 1) (mi 12).toInt (mf 2))) (fun u => QW D cI cJ A ((fun (u : (Nat → Int32) × Int32 × Int32) => (MW cI cJ M mr (upd (upd mi 42 u.2.1) 3 u.2.2) (va_up mf 43 u.1) mg)) u)) A) ([.ref M, .int 2, .int z_n] : List Value).toArray s 0 0 A) (F0 m 7 ls []) := by
    intro k
    induction k with
    | zero =>
      intro x_7 g_8 _ _ _ hinv hm
      obtain ⟨hi_8_0, hi_8_1, hi_8_2⟩ := hinv
      exact absurd hm (by omega)
    | succ k ih_9 =>
      intro x_7 g_8 H locs ls hinv hm hw10 hl11
      obtain ⟨hi_8_0, hi_8_1, hi_8_2⟩ := hinv
      refine lv_iload_n (pc := 7) E.1 E.2.1 dX12_takesOther_7 rfl (lv_at hl11 0 rfl) ?_
      refine lv_iconst (pc := 8) (v := 4) E.1 E.2.1 dX12_takesOther_8 (by decide +kernel) ?_
      refine lv_iload_n (pc := 9) E.1 E.2.1 dX12_takesOther_9 rfl (lv_at hl11 3 rfl) ?_
      refine lv_imul (pc := 10) E.1 E.2.1 dX12_takesOther_10 ?_
      refine lv_topi (fun v_12 ev_12 => ?_)
      have hv_12 : v_12.toInt = 4 * z_n.toInt := by rw [ev_12]; exact mulE (by decide +kernel) rfl (by omega)
      refine lv_icmp_ge (pc := 11) (tgt := 36) E.1 E.2.1 dX12_takesOther_11 (by decide) (fun c_13 => ?_) (fun c_13 => ?_)
      · skip
        have hc_13 := leE (a := v_12.toInt) (b := x_7.toInt) rfl rfl c_13
        have hpk_14 : pathsOK g_8 := pathsOK_MV a_paths x_pd hi_8_2 (by omega) (by omega)
        refine lv_aload_n (pc := 36) E.1 E.2.1 dX12_takesOther_36 rfl (lv_at hl11 1 rfl) ?_
        refine lv_iload_n (pc := 37) E.1 E.2.1 dX12_takesOther_37 rfl (lv_at hl11 3 rfl) ?_
        refine x_put (pc := 38) (T := TX12) (N := 70) (ci := 12) (ws' := (MW cI cJ M mr (upd mi 42 z_n) (va_up mf 43 g_8) mg)) E hw10 inX12 tyX12_ok nmX12 0 42 q_1441 rfl rfl (by decide) rfl rfl rfl rfl (Nat.le_of_ble_eq_true rfl) rfl dX12_takesOther_38 (fun H locs hw15 => ?_)
        refine lv_iload_n (pc := 41) E.1 E.2.1 dX12_takesOther_41 rfl (lv_at hl11 2 rfl) ?_
        refine lv_iconst (pc := 42) (v := 3) E.1 E.2.1 dX12_takesOther_42 (by decide +kernel) ?_
        refine lv_icmp_ne (pc := 43) (tgt := 115) E.1 E.2.1 dX12_takesOther_43 (by decide) (fun _ => ?_) (fun c_16 => absurd c_16 (mneE (a := 2) (b := 3) (by decide +kernel) (by decide +kernel) (by omega)))
        refine lv_iload_n (pc := 115) E.1 E.2.1 dX12_takesOther_115 rfl (lv_at hl11 2 rfl) ?_
        refine lv_iconst (pc := 116) (v := 4) E.1 E.2.1 dX12_takesOther_116 (by decide +kernel) ?_
        refine lv_icmp_ne (pc := 117) (tgt := 161) E.1 E.2.1 dX12_takesOther_117 (by decide) (fun _ => ?_) (fun c_17 => absurd c_17 (mneE (a := 2) (b := 4) (by decide +kernel) (by decide +kernel) (by omega)))
        refine lv_aload_n (pc := 161) E.1 E.2.1 dX12_takesOther_161 rfl (lv_at hl11 1 rfl) ?_
        refine lv_iconst (pc := 162) (v := 0) E.1 E.2.1 dX12_takesOther_162 (by decide +kernel) ?_
        refine x_put (pc := 163) (T := TX12) (N := 70) (ci := 12) (ws' := (MW cI cJ M mr (upd (upd mi 3 0) 42 z_n) (va_up mf 43 g_8) mg)) E hw15 inX12 tyX12_ok nmX12 0 3 q_1402 rfl rfl (by decide) rfl rfl rfl rfl (Nat.le_of_ble_eq_true rfl) rfl dX12_takesOther_163 (fun H locs hw18 => ?_)
        exact em_v (w1 := (fun (u : (Nat → Int32) × Int32 × Int32) => (MW cI cJ M mr (upd (upd mi 42 u.2.1) 3 u.2.2) (va_up mf 43 u.1) mg))) E hr hlk (g_8, z_n, 0) hw18 ⟨(by show z_n.toInt = z_n.toInt; have k_0 : (0 : Int32).toInt = 0 := (by decide +kernel); omega), (by show (0 : Int32).toInt = 0; have k_0 : (0 : Int32).toInt = 0 := (by decide +kernel); omega), hpk_14, (show rowsOK (0 : Int32).toInt (mi 6).toInt (mf 2) from (rowsOK_nil (by decide +kernel))), (show RKN (0 : Int32).toInt (((mf 1) 0).toInt) (mf 2) from (RKN_nil (by first | omega | decide +kernel))), (show RKD (0 : Int32).toInt ((mf 1) 1) (mi 12).toInt (mf 2) from (RKD_nil (by first | omega | decide +kernel)))⟩ (Nat.le_of_ble_eq_true rfl) (Nat.le_of_ble_eq_true rfl) dX12_takesOther_166
      · skip
        have hc_13 := nleE (a := v_12.toInt) (b := x_7.toInt) rfl rfl c_13
        refine lv_aload_n (pc := 14) E.1 E.2.1 dX12_takesOther_14 rfl (lv_at hl11 1 rfl) ?_
        refine x_get (pc := 15) (T := TX12) (N := 70) (ci := 12) (v := .ref (mr 43)) E hw10 inX12 0 43 q_1442 rfl rfl (by decide) rfl rfl dX12_takesOther_15 ?_
        refine lv_iload_n (pc := 18) E.1 E.2.1 dX12_takesOther_18 rfl (lv_at hl11 0 rfl) ?_
        refine lv_aload_n (pc := 19) E.1 E.2.1 dX12_takesOther_19 rfl (lv_at hl11 1 rfl) ?_
        refine x_get (pc := 20) (T := TX12) (N := 70) (ci := 12) (v := .ref (mr 43)) E hw10 inX12 0 43 q_1442 rfl rfl (by decide) rfl rfl dX12_takesOther_20 ?_
        refine lv_sipush (pc := 23) (v := 160) E.1 E.2.1 dX12_takesOther_23 (by decide +kernel) ?_
        refine lv_iload_n (pc := 26) E.1 E.2.1 dX12_takesOther_26 rfl (lv_at hl11 0 rfl) ?_
        refine lv_iadd (pc := 27) E.1 E.2.1 dX12_takesOther_27 ?_
        refine lv_topi (fun v_19 ev_19 => ?_)
        have hv_19 : v_19.toInt = 160 + x_7.toInt := by rw [ev_19]; exact addE (by decide +kernel) rfl (by omega)
        refine x_iald (pc := 28) (f := g_8) E hw10 21 rfl (inbE (a := v_19.toInt) rfl (by omega)) dX12_takesOther_28 ?_
        refine lv_topi (fun v_20 ev_20 => ?_)
        refine x_iastG (pc := 29) (f := g_8) (wf := fun g => (MW cI cJ M mr mi (va_up mf 43 g) mg)) E hw10 21 rfl (inbE (a := x_7.toInt) rfl (by omega)) (fun _ => rfl) dX12_takesOther_29 (fun g_21 H locs eg_21 hw22 => ?_)
        obtain ⟨v_23, ev_23⟩ : ∃ z : Int32, x_7 + Int32.ofInt (1) = z := ⟨_, rfl⟩
        have hv_23 : v_23.toInt = x_7.toInt + (1) := by rw [← ev_23]; exact incE rfl (by decide) (by omega)
        refine lv_iinc (pc := 30) (v := v_23) (lv' := [(3, .int v_23), (0, .ref M), (1, .int 2), (2, .int z_n)]) E.1 E.2.1 dX12_takesOther_30 hl11 (k := 0) rfl ev_23 (by decide) rfl (fun ls hl24 => ?_)
        refine lv_goto (pc := 33) (tgt := 7) E.1 E.2.1 dX12_takesOther_33 (by decide) ?_
        exact ih_9 v_23 g_21 _ _ _ ⟨(by show 0 ≤ v_23.toInt; omega), (by show v_23.toInt ≤ 4 * z_n.toInt; omega), (MV_step (i := x_7) (j := v_23) (m := 160) hi_8_2 eg_21 ev_20 (by omega) (by omega) (by omega) (by omega) (by omega) (by omega))⟩ (by omega) hw22 (lv_sub hl24 [0, 1, 2, 3] rfl)
  exact loop_6 (Int.toNat (4 * z_n.toInt - 0) + 1) 0 (mf 43) _ _ _ ⟨(by show 0 ≤ (0 : Int32).toInt; have k_0 : (0 : Int32).toInt = 0 := (by decide +kernel); omega), (by show (0 : Int32).toInt ≤ 4 * z_n.toInt; have k_0 : (0 : Int32).toInt = 0 := (by decide +kernel); omega), (MV_nil (by decide +kernel))⟩ (by have k_0 : (0 : Int32).toInt = 0 := (by decide +kernel); omega) hw1 (lv_sub hl5 [0, 1, 2, 3] rfl)

