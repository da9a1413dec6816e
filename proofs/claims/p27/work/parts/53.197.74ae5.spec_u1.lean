set_option maxHeartbeats 4000000 in
set_option maxRecDepth 100000 in
theorem s_thinksU (l : Launch) (D : va_G) (cI cJ : ClassId) (sz M : Nat) (mr : Nat → Nat) (mi : Nat → Int32) (mf : Nat → Nat → Int32) (mg : Nat → Nat → Int64)   : Met l yX12_thinks (Cond.code yX12_thinks cX12_thinks 2 none :: GW) ({ frames := 1, cells := 0, slots := 0, locals := 40 } : Room) (va_Pc [.ref M] (PW D cI cJ sz (MW cI cJ M mr mi mf mg) xT)) (va_Qv (fun (u : (Nat → Int32) × Int32) => (u.2.toInt = 1) ∧ ((u.1 2).toInt = ((mf 1) 2).toInt) ∧ ((u.1 3).toInt = ((mf 1) 3).toInt) ∧ ((u.1 5).toInt = ((mf 1) 5).toInt) ∧ ((u.1 0).toInt = ((mf 1) 0).toInt)) (fun u => QW D cI cJ (va_A (MW cI cJ M mr mi mf mg) sz) ((fun (u : (Nat → Int32) × Int32) => (MW cI cJ M mr (upd mi 5 u.2) (va_up mf 4 u.1) mg)) u)) (va_A (MW cI cJ M mr mi mf mg) sz)) 0 0 (va_A (MW cI cJ M mr mi mf mg) sz) := by
  refine mk_met (y := yX12_thinks) (bytes := cX12_thinks) (maxL := 2) (avs := [.ref M]) (WS := (MW cI cJ M mr mi mf mg)) (Qf := fun A => va_Qv (fun (u : (Nat → Int32) × Int32) => (u.2.toInt = 1) ∧ ((u.1 2).toInt = ((mf 1) 2).toInt) ∧ ((u.1 3).toInt = ((mf 1) 3).toInt) ∧ ((u.1 5).toInt = ((mf 1) 5).toInt) ∧ ((u.1 0).toInt = ((mf 1) 0).toInt)) (fun u => QW D cI cJ A ((fun (u : (Nat → Int32) × Int32) => (MW cI cJ M mr (upd mi 5 u.2) (va_up mf 4 u.1) mg)) u)) A) (by decide) (Nat.le_of_ble_eq_true rfl) ?_
  intro p e s m below meth c A ls E hr hlk hnm hX hw1 hl2
  have hl3 : lv_has ls 2 [(0, .ref M)] := hl2
  refine lv_iconst (pc := 0) (v := 0) E.1 E.2.1 dX12_thinks_0 (by decide +kernel) ?_
  refine lv_istore_n (pc := 1) (lv' := [(1, .int 0), (0, .ref M)]) E.1 E.2.1 dX12_thinks_1 rfl hl3 (by decide) rfl (fun ls hl4 => ?_)
  have loop_5 : ∀ (k : Nat) (x_6 : Int32) (g_7 : Nat → Int32) (H : Heap) (locs : List Loc) (ls : Array Slot), (0 ≤ x_6.toInt ∧ x_6.toInt ≤ 66) ∧ (CP g_7 (mf 1) 0 0 x_6.toInt) → 66 - x_6.toInt < (k : Int) → WD D A s.heap (MW cI cJ M mr mi (va_up mf 4 g_7) mg) H locs → lv_has ls 2 [(1, .int x_6), (0, .ref M)] → W p l e ({ frames := 1, cells := 0, slots := 0, locals := 40 } : Room) s m ([.ref M] : List Value).toArray below meth c H locs 0 0 (MQ below (va_Qv (fun (u : (Nat → Int32) × Int32) => (u.2.toInt = 1) ∧ ((u.1 2).toInt = ((mf 1) 2).toInt) ∧ ((u.1 3).toInt = ((mf 1) 3).toInt) ∧ ((u.1 5).toInt = ((mf 1) 5).toInt) ∧ ((u.1 0).toInt = ((mf 1) 0).toInt)) (fun u => QW D cI cJ A ((fun (u : (Nat → Int32) × Int32) => (MW cI cJ M mr (upd mi 5 u.2) (va_up mf 4 u.1) mg)) u)) A) ([.ref M] : List Value).toArray s 0 0 A) (F0 m 2 ls []) := by
    intro k
    induction k with
    | zero =>
      intro x_6 g_7 _ _ _ hinv hm
      obtain ⟨hi_7_0, hi_7_1⟩ := hinv
      exact absurd hm (by omega)
    | succ k ih_8 =>
      intro x_6 g_7 H locs ls hinv hm hw9 hl10
      obtain ⟨hi_7_0, hi_7_1⟩ := hinv
      refine lv_iload_n (pc := 2) E.1 E.2.1 dX12_thinks_2 rfl (lv_at hl10 0 rfl) ?_
      refine lv_bipush (pc := 3) (v := 66) E.1 E.2.1 dX12_thinks_3 (by decide +kernel) ?_
      refine lv_icmp_ge (pc := 5) (tgt := 26) E.1 E.2.1 dX12_thinks_5 (by decide) (fun c_11 => ?_) (fun c_11 => ?_)
      · skip
        have hc_11 := leE (a := 66) (b := x_6.toInt) (by decide +kernel) rfl c_11
        have ht_12 : (g_7 0).toInt = ((mf 1) 0).toInt := congrArg Int32.toInt ((Nat.zero_add 0) ▸ (Nat.zero_add 0) ▸ hi_7_1 0 (by omega))
        have ht_13 : (g_7 2).toInt = ((mf 1) 2).toInt := congrArg Int32.toInt ((Nat.zero_add 2) ▸ (Nat.zero_add 2) ▸ hi_7_1 2 (by omega))
        have ht_14 : (g_7 3).toInt = ((mf 1) 3).toInt := congrArg Int32.toInt ((Nat.zero_add 3) ▸ (Nat.zero_add 3) ▸ hi_7_1 3 (by omega))
        have ht_15 : (g_7 5).toInt = ((mf 1) 5).toInt := congrArg Int32.toInt ((Nat.zero_add 5) ▸ (Nat.zero_add 5) ▸ hi_7_1 5 (by omega))
        refine lv_aload_n (pc := 26) E.1 E.2.1 dX12_thinks_26 rfl (lv_at hl10 1 rfl) ?_
        refine lv_iconst (pc := 27) (v := 1) E.1 E.2.1 dX12_thinks_27 (by decide +kernel) ?_
        refine x_put (pc := 28) (T := TX12) (N := 70) (ci := 12) (ws' := (MW cI cJ M mr (upd mi 5 1) (va_up mf 4 g_7) mg)) E hw9 inX12 tyX12_ok nmX12 0 5 q_1404 rfl rfl (by decide) rfl rfl rfl rfl (Nat.le_of_ble_eq_true rfl) rfl dX12_thinks_28 (fun H locs hw16 => ?_)
        exact em_v (w1 := (fun (u : (Nat → Int32) × Int32) => (MW cI cJ M mr (upd mi 5 u.2) (va_up mf 4 u.1) mg))) E hr hlk (g_7, 1) hw16 ⟨(by show (1 : Int32).toInt = 1; have k_0 : (1 : Int32).toInt = 1 := (by decide +kernel); omega), (by show (g_7 2).toInt = ((mf 1) 2).toInt; have k_0 : (1 : Int32).toInt = 1 := (by decide +kernel); omega), (by show (g_7 3).toInt = ((mf 1) 3).toInt; have k_0 : (1 : Int32).toInt = 1 := (by decide +kernel); omega), (by show (g_7 5).toInt = ((mf 1) 5).toInt; have k_0 : (1 : Int32).toInt = 1 := (by decide +kernel); omega), (by show (g_7 0).toInt = ((mf 1) 0).toInt; have k_0 : (1 : Int32).toInt = 1 := (by decide +kernel); omega)⟩ (Nat.le_of_ble_eq_true rfl) (Nat.le_of_ble_eq_true rfl) dX12_thinks_31
      · skip
        have hc_11 := nleE (a := 66) (b := x_6.toInt) (by decide +kernel) rfl c_11
        refine lv_aload_n (pc := 8) E.1 E.2.1 dX12_thinks_8 rfl (lv_at hl10 1 rfl) ?_
        refine x_get (pc := 9) (T := TX12) (N := 70) (ci := 12) (v := .ref (mr 4)) E hw9 inX12 0 4 q_1403 rfl rfl (by decide) rfl rfl dX12_thinks_9 ?_
        refine lv_iload_n (pc := 12) E.1 E.2.1 dX12_thinks_12 rfl (lv_at hl10 0 rfl) ?_
        refine lv_aload_n (pc := 13) E.1 E.2.1 dX12_thinks_13 rfl (lv_at hl10 1 rfl) ?_
        refine x_get (pc := 14) (T := TX12) (N := 70) (ci := 12) (v := .ref (mr 1)) E hw9 inX12 0 1 q_1400 rfl rfl (by decide) rfl rfl dX12_thinks_14 ?_
        refine lv_iload_n (pc := 17) E.1 E.2.1 dX12_thinks_17 rfl (lv_at hl10 0 rfl) ?_
        refine x_iald (pc := 18) (f := (mf 1)) E hw9 1 rfl (inbE (a := x_6.toInt) rfl (by omega)) dX12_thinks_18 ?_
        refine lv_topi (fun v_17 ev_17 => ?_)
        refine x_iastG (pc := 19) (f := g_7) (wf := fun g => (MW cI cJ M mr mi (va_up mf 4 g) mg)) E hw9 3 rfl (inbE (a := x_6.toInt) rfl (by omega)) (fun _ => rfl) dX12_thinks_19 (fun g_18 H locs eg_18 hw19 => ?_)
        obtain ⟨v_24, ev_24⟩ : ∃ z : Int32, x_6 + Int32.ofInt (1) = z := ⟨_, rfl⟩
        have hv_24 : v_24.toInt = x_6.toInt + (1) := by rw [← ev_24]; exact incE rfl (by decide) (by omega)
        refine lv_iinc (pc := 20) (v := v_24) (lv' := [(1, .int v_24), (0, .ref M)]) E.1 E.2.1 dX12_thinks_20 hl10 (k := 0) rfl ev_24 (by decide) rfl (fun ls hl25 => ?_)
        refine lv_goto (pc := 23) (tgt := 2) E.1 E.2.1 dX12_thinks_23 (by decide) ?_
        exact ih_8 v_24 g_18 _ _ _ ⟨(by show 0 ≤ v_24.toInt ∧ v_24.toInt ≤ 66; omega), (CP_step (i := x_6) (j := v_24) hi_7_1 eg_18 ev_17 (by omega) (by omega) (by omega) (by omega))⟩ (by omega) hw19 (lv_sub hl25 [0, 1] rfl)
  exact loop_5 (Int.toNat (66 - 0) + 1) 0 (mf 4) _ _ _ ⟨(by show 0 ≤ (0 : Int32).toInt ∧ (0 : Int32).toInt ≤ 66; have k_0 : (0 : Int32).toInt = 0 := (by decide +kernel); omega), (CP_nil (by decide +kernel))⟩ (by have k_0 : (0 : Int32).toInt = 0 := (by decide +kernel); omega) hw1 (lv_sub hl4 [0, 1] rfl)

set_option maxHeartbeats 4000000 in
set_option maxRecDepth 100000 in
theorem s_endsThoughtU (l : Launch) (D : va_G) (cI cJ : ClassId) (sz M : Nat) (mr : Nat → Nat) (mi : Nat → Int32) (mf : Nat → Nat → Int32) (mg : Nat → Nat → Int64)   : Met l yX12_endsThought (Cond.code yX12_endsThought cX12_endsThought 2 none :: GW) ({ frames := 1, cells := 0, slots := 0, locals := 40 } : Room) (va_Pc [.ref M] (PW D cI cJ sz (MW cI cJ M mr mi mf mg) xT)) (va_Qv (fun (u : (Nat → Int32) × Int32) => (u.2.toInt = 0) ∧ ((u.1 2).toInt = ((mf 4) 2).toInt) ∧ ((u.1 3).toInt = ((mf 4) 3).toInt) ∧ ((u.1 5).toInt = ((mf 4) 5).toInt) ∧ ((u.1 0).toInt = ((mf 4) 0).toInt)) (fun u => QW D cI cJ (va_A (MW cI cJ M mr mi mf mg) sz) ((fun (u : (Nat → Int32) × Int32) => (MW cI cJ M mr (upd mi 5 u.2) (va_up mf 1 u.1) mg)) u)) (va_A (MW cI cJ M mr mi mf mg) sz)) 0 0 (va_A (MW cI cJ M mr mi mf mg) sz) := by
  refine mk_met (y := yX12_endsThought) (bytes := cX12_endsThought) (maxL := 2) (avs := [.ref M]) (WS := (MW cI cJ M mr mi mf mg)) (Qf := fun A => va_Qv (fun (u : (Nat → Int32) × Int32) => (u.2.toInt = 0) ∧ ((u.1 2).toInt = ((mf 4) 2).toInt) ∧ ((u.1 3).toInt = ((mf 4) 3).toInt) ∧ ((u.1 5).toInt = ((mf 4) 5).toInt) ∧ ((u.1 0).toInt = ((mf 4) 0).toInt)) (fun u => QW D cI cJ A ((fun (u : (Nat → Int32) × Int32) => (MW cI cJ M mr (upd mi 5 u.2) (va_up mf 1 u.1) mg)) u)) A) (by decide) (Nat.le_of_ble_eq_true rfl) ?_
  intro p e s m below meth c A ls E hr hlk hnm hX hw1 hl2
  have hl3 : lv_has ls 2 [(0, .ref M)] := hl2
  refine lv_iconst (pc := 0) (v := 0) E.1 E.2.1 dX12_endsThought_0 (by decide +kernel) ?_
  refine lv_istore_n (pc := 1) (lv' := [(1, .int 0), (0, .ref M)]) E.1 E.2.1 dX12_endsThought_1 rfl hl3 (by decide) rfl (fun ls hl4 => ?_)
  have loop_5 : ∀ (k : Nat) (x_6 : Int32) (g_7 : Nat → Int32) (H : Heap) (locs : List Loc) (ls : Array Slot), (0 ≤ x_6.toInt ∧ x_6.toInt ≤ 66) ∧ (CP g_7 (mf 4) 0 0 x_6.toInt) → 66 - x_6.toInt < (k : Int) → WD D A s.heap (MW cI cJ M mr mi (va_up mf 1 g_7) mg) H locs → lv_has ls 2 [(1, .int x_6), (0, .ref M)] → W p l e ({ frames := 1, cells := 0, slots := 0, locals := 40 } : Room) s m ([.ref M] : List Value).toArray below meth c H locs 0 0 (MQ below (va_Qv (fun (u : (Nat → Int32) × Int32) => (u.2.toInt = 0) ∧ ((u.1 2).toInt = ((mf 4) 2).toInt) ∧ ((u.1 3).toInt = ((mf 4) 3).toInt) ∧ ((u.1 5).toInt = ((mf 4) 5).toInt) ∧ ((u.1 0).toInt = ((mf 4) 0).toInt)) (fun u => QW D cI cJ A ((fun (u : (Nat → Int32) × Int32) => (MW cI cJ M mr (upd mi 5 u.2) (va_up mf 1 u.1) mg)) u)) A) ([.ref M] : List Value).toArray s 0 0 A) (F0 m 2 ls []) := by
    intro k
    induction k with
    | zero =>
      intro x_6 g_7 _ _ _ hinv hm
      obtain ⟨hi_7_0, hi_7_1⟩ := hinv
      exact absurd hm (by omega)
    | succ k ih_8 =>
      intro x_6 g_7 H locs ls hinv hm hw9 hl10
      obtain ⟨hi_7_0, hi_7_1⟩ := hinv
      refine lv_iload_n (pc := 2) E.1 E.2.1 dX12_endsThought_2 rfl (lv_at hl10 0 rfl) ?_
      refine lv_bipush (pc := 3) (v := 66) E.1 E.2.1 dX12_endsThought_3 (by decide +kernel) ?_
      refine lv_icmp_ge (pc := 5) (tgt := 26) E.1 E.2.1 dX12_endsThought_5 (by decide) (fun c_11 => ?_) (fun c_11 => ?_)
      · skip
        have hc_11 := leE (a := 66) (b := x_6.toInt) (by decide +kernel) rfl c_11
        have ht_12 : (g_7 0).toInt = ((mf 4) 0).toInt := congrArg Int32.toInt ((Nat.zero_add 0) ▸ (Nat.zero_add 0) ▸ hi_7_1 0 (by omega))
        have ht_13 : (g_7 2).toInt = ((mf 4) 2).toInt := congrArg Int32.toInt ((Nat.zero_add 2) ▸ (Nat.zero_add 2) ▸ hi_7_1 2 (by omega))
        have ht_14 : (g_7 3).toInt = ((mf 4) 3).toInt := congrArg Int32.toInt ((Nat.zero_add 3) ▸ (Nat.zero_add 3) ▸ hi_7_1 3 (by omega))
        have ht_15 : (g_7 5).toInt = ((mf 4) 5).toInt := congrArg Int32.toInt ((Nat.zero_add 5) ▸ (Nat.zero_add 5) ▸ hi_7_1 5 (by omega))
        refine lv_aload_n (pc := 26) E.1 E.2.1 dX12_endsThought_26 rfl (lv_at hl10 1 rfl) ?_
        refine lv_iconst (pc := 27) (v := 0) E.1 E.2.1 dX12_endsThought_27 (by decide +kernel) ?_
        refine x_put (pc := 28) (T := TX12) (N := 70) (ci := 12) (ws' := (MW cI cJ M mr (upd mi 5 0) (va_up mf 1 g_7) mg)) E hw9 inX12 tyX12_ok nmX12 0 5 q_1404 rfl rfl (by decide) rfl rfl rfl rfl (Nat.le_of_ble_eq_true rfl) rfl dX12_endsThought_28 (fun H locs hw16 => ?_)
        exact em_v (w1 := (fun (u : (Nat → Int32) × Int32) => (MW cI cJ M mr (upd mi 5 u.2) (va_up mf 1 u.1) mg))) E hr hlk (g_7, 0) hw16 ⟨(by show (0 : Int32).toInt = 0; have k_0 : (0 : Int32).toInt = 0 := (by decide +kernel); omega), (by show (g_7 2).toInt = ((mf 4) 2).toInt; have k_0 : (0 : Int32).toInt = 0 := (by decide +kernel); omega), (by show (g_7 3).toInt = ((mf 4) 3).toInt; have k_0 : (0 : Int32).toInt = 0 := (by decide +kernel); omega), (by show (g_7 5).toInt = ((mf 4) 5).toInt; have k_0 : (0 : Int32).toInt = 0 := (by decide +kernel); omega), (by show (g_7 0).toInt = ((mf 4) 0).toInt; have k_0 : (0 : Int32).toInt = 0 := (by decide +kernel); omega)⟩ (Nat.le_of_ble_eq_true rfl) (Nat.le_of_ble_eq_true rfl) dX12_endsThought_31
      · skip
        have hc_11 := nleE (a := 66) (b := x_6.toInt) (by decide +kernel) rfl c_11
        refine lv_aload_n (pc := 8) E.1 E.2.1 dX12_endsThought_8 rfl (lv_at hl10 1 rfl) ?_
        refine x_get (pc := 9) (T := TX12) (N := 70) (ci := 12) (v := .ref (mr 1)) E hw9 inX12 0 1 q_1400 rfl rfl (by decide) rfl rfl dX12_endsThought_9 ?_
        refine lv_iload_n (pc := 12) E.1 E.2.1 dX12_endsThought_12 rfl (lv_at hl10 0 rfl) ?_
        refine lv_aload_n (pc := 13) E.1 E.2.1 dX12_endsThought_13 rfl (lv_at hl10 1 rfl) ?_
        refine x_get (pc := 14) (T := TX12) (N := 70) (ci := 12) (v := .ref (mr 4)) E hw9 inX12 0 4 q_1403 rfl rfl (by decide) rfl rfl dX12_endsThought_14 ?_
        refine lv_iload_n (pc := 17) E.1 E.2.1 dX12_endsThought_17 rfl (lv_at hl10 0 rfl) ?_
        refine x_iald (pc := 18) (f := (mf 4)) E hw9 3 rfl (inbE (a := x_6.toInt) rfl (by omega)) dX12_endsThought_18 ?_
        refine lv_topi (fun v_17 ev_17 => ?_)
        refine x_iastG (pc := 19) (f := g_7) (wf := fun g => (MW cI cJ M mr mi (va_up mf 1 g) mg)) E hw9 1 rfl (inbE (a := x_6.toInt) rfl (by omega)) (fun _ => rfl) dX12_endsThought_19 (fun g_18 H locs eg_18 hw19 => ?_)
        obtain ⟨v_24, ev_24⟩ : ∃ z : Int32, x_6 + Int32.ofInt (1) = z := ⟨_, rfl⟩
        have hv_24 : v_24.toInt = x_6.toInt + (1) := by rw [← ev_24]; exact incE rfl (by decide) (by omega)
        refine lv_iinc (pc := 20) (v := v_24) (lv' := [(1, .int v_24), (0, .ref M)]) E.1 E.2.1 dX12_endsThought_20 hl10 (k := 0) rfl ev_24 (by decide) rfl (fun ls hl25 => ?_)
        refine lv_goto (pc := 23) (tgt := 2) E.1 E.2.1 dX12_endsThought_23 (by decide) ?_
        exact ih_8 v_24 g_18 _ _ _ ⟨(by show 0 ≤ v_24.toInt ∧ v_24.toInt ≤ 66; omega), (CP_step (i := x_6) (j := v_24) hi_7_1 eg_18 ev_17 (by omega) (by omega) (by omega) (by omega))⟩ (by omega) hw19 (lv_sub hl25 [0, 1] rfl)
  exact loop_5 (Int.toNat (66 - 0) + 1) 0 (mf 1) _ _ _ ⟨(by show 0 ≤ (0 : Int32).toInt ∧ (0 : Int32).toInt ≤ 66; have k_0 : (0 : Int32).toInt = 0 := (by decide +kernel); omega), (CP_nil (by decide +kernel))⟩ (by have k_0 : (0 : Int32).toInt = 0 := (by decide +kernel); omega) hw1 (lv_sub hl4 [0, 1] rfl)

set_option maxHeartbeats 4000000 in
set_option maxRecDepth 100000 in
theorem s_drawU (l : Launch) (D : va_G) (cI cJ : ClassId) (sz M : Nat) (mr : Nat → Nat) (mi : Nat → Int32) (mf : Nat → Nat → Int32) (mg : Nat → Nat → Int64) (z_m : Int32) (h0 : 1 ≤ z_m.toInt) : Met l yX12_draw (Cond.code yX12_draw cX12_draw 2 (some .int) :: GW) ({ frames := 1, cells := 0, slots := 0, locals := 40 } : Room) (va_Pc [.ref M, .int z_m] (PW D cI cJ sz (MW cI cJ M mr mi mf mg) xT)) (va_Qi (fun (r : Int32) (u : (Nat → Int32)) => ((u 2).toInt = ((mf 1) 2).toInt) ∧ ((u 3).toInt = ((mf 1) 3).toInt) ∧ ((u 5).toInt = ((mf 1) 5).toInt) ∧ ((u 0).toInt = ((mf 1) 0).toInt)) (fun u => QW D cI cJ (va_A (MW cI cJ M mr mi mf mg) sz) ((fun (u : (Nat → Int32)) => (MW cI cJ M mr mi (va_up mf 1 u) mg)) u)) (va_A (MW cI cJ M mr mi mf mg) sz)) 0 0 (va_A (MW cI cJ M mr mi mf mg) sz) := by
  refine mk_met (y := yX12_draw) (bytes := cX12_draw) (maxL := 2) (avs := [.ref M, .int z_m]) (WS := (MW cI cJ M mr mi mf mg)) (Qf := fun A => va_Qi (fun (r : Int32) (u : (Nat → Int32)) => ((u 2).toInt = ((mf 1) 2).toInt) ∧ ((u 3).toInt = ((mf 1) 3).toInt) ∧ ((u 5).toInt = ((mf 1) 5).toInt) ∧ ((u 0).toInt = ((mf 1) 0).toInt)) (fun u => QW D cI cJ A ((fun (u : (Nat → Int32)) => (MW cI cJ M mr mi (va_up mf 1 u) mg)) u)) A) (by decide) (Nat.le_of_ble_eq_true rfl) ?_
  intro p e s m below meth c A ls E hr hlk hnm hX hw1 hl2
  have hl3 : lv_has ls 2 [(0, .ref M), (1, .int z_m)] := hl2
  refine lv_aload_n (pc := 0) E.1 E.2.1 dX12_draw_0 rfl (lv_at hl3 0 rfl) ?_
  refine x_get (pc := 1) (T := TX12) (N := 70) (ci := 12) (v := .ref (mr 1)) E hw1 inX12 0 1 q_1400 rfl rfl (by decide) rfl rfl dX12_draw_1 ?_
  refine lv_iconst (pc := 4) (v := 1) E.1 E.2.1 dX12_draw_4 (by decide +kernel) ?_
  refine lv_ldc (pc := 5) (v := 1664525) E.1 E.2.1 E.2.2.2.1 (E.2.2.2.2.1 _ q_1927) dX12_draw_5 ?_
  refine lv_aload_n (pc := 7) E.1 E.2.1 dX12_draw_7 rfl (lv_at hl3 0 rfl) ?_
  refine x_get (pc := 8) (T := TX12) (N := 70) (ci := 12) (v := .ref (mr 1)) E hw1 inX12 0 1 q_1400 rfl rfl (by decide) rfl rfl dX12_draw_8 ?_
  refine lv_iconst (pc := 11) (v := 1) E.1 E.2.1 dX12_draw_11 (by decide +kernel) ?_
  refine x_iald (pc := 12) (f := (mf 1)) E hw1 1 rfl (inbE (a := 1) (by decide +kernel) (by omega)) dX12_draw_12 ?_
  refine lv_topi (fun v_4 ev_4 => ?_)
  refine lv_imul (pc := 13) E.1 E.2.1 dX12_draw_13 ?_
  refine lv_topi (fun v_5 ev_5 => ?_)
  refine lv_ldc (pc := 14) (v := 1013904223) E.1 E.2.1 E.2.2.2.1 (E.2.2.2.2.1 _ q_1928) dX12_draw_14 ?_
  refine lv_iadd (pc := 16) E.1 E.2.1 dX12_draw_16 ?_
  refine lv_topi (fun v_6 ev_6 => ?_)
  refine x_iastG (pc := 17) (f := (mf 1)) (wf := fun g => (MW cI cJ M mr mi (va_up mf 1 g) mg)) E hw1 1 rfl (inbE (a := 1) (by decide +kernel) (by omega)) (fun _ => rfl) dX12_draw_17 (fun g_7 H locs eg_7 hw8 => ?_)
  have ht_9 : (g_7 0).toInt = ((mf 1) 0).toInt := by rw [eg_7]; rfl
  have ht_10 : (g_7 2).toInt = ((mf 1) 2).toInt := by rw [eg_7]; rfl
  have ht_11 : (g_7 3).toInt = ((mf 1) 3).toInt := by rw [eg_7]; rfl
  have ht_12 : (g_7 5).toInt = ((mf 1) 5).toInt := by rw [eg_7]; rfl
  refine lv_aload_n (pc := 18) E.1 E.2.1 dX12_draw_18 rfl (lv_at hl3 0 rfl) ?_
  refine x_get (pc := 19) (T := TX12) (N := 70) (ci := 12) (v := .ref (mr 1)) E hw8 inX12 0 1 q_1400 rfl rfl (by decide) rfl rfl dX12_draw_19 ?_
  refine lv_iconst (pc := 22) (v := 1) E.1 E.2.1 dX12_draw_22 (by decide +kernel) ?_
  refine x_iald (pc := 23) (f := g_7) E hw8 1 rfl (inbE (a := 1) (by decide +kernel) (by omega)) dX12_draw_23 ?_
  refine lv_topi (fun v_13 ev_13 => ?_)
  have hsv_13 : v_13.toInt = v_6.toInt := by rw [ev_13, eg_7, show (1 : Int32).toNatClampNeg = (1 : Int32).toNatClampNeg from (by  omega), pk_us]
  refine lv_bipush (pc := 24) (v := 8) E.1 E.2.1 dX12_draw_24 (by decide +kernel) ?_
  refine lv_iushr (pc := 26) E.1 E.2.1 dX12_draw_26 rfl ?_
  refine lv_topi (fun v_14 ev_14 => ?_)
  refine lv_iload_n (pc := 27) E.1 E.2.1 dX12_draw_27 rfl (lv_at hl3 1 rfl) ?_
  refine lv_irem (pc := 28) E.1 E.2.1 dX12_draw_28 (mneE (a := z_m.toInt) (b := 0) rfl (by decide +kernel) (by omega)) ?_
  refine lv_topi (fun v_15 ev_15 => ?_)
  exact em_i (w1 := (fun (u : (Nat → Int32)) => (MW cI cJ M mr mi (va_up mf 1 u) mg))) E hr hlk g_7 hw8 ⟨(by show (g_7 2).toInt = ((mf 1) 2).toInt; omega), (by show (g_7 3).toInt = ((mf 1) 3).toInt; omega), (by show (g_7 5).toInt = ((mf 1) 5).toInt; omega), (by show (g_7 0).toInt = ((mf 1) 0).toInt; omega)⟩ (Nat.le_of_ble_eq_true rfl) (Nat.le_of_ble_eq_true rfl) dX12_draw_29

set_option maxHeartbeats 4000000 in
set_option maxRecDepth 100000 in
theorem s_owesU (l : Launch) (D : va_G) (cI cJ : ClassId) (sz M : Nat) (mr : Nat → Nat) (mi : Nat → Int32) (mf : Nat → Nat → Int32) (mg : Nat → Nat → Int64)  (h0 : 0 ≤ (mi 6).toInt ∧ (mi 6).toInt ≤ 10) (h1 : (-29) ≤ (mi 15).toInt ∧ (mi 15).toInt ≤ 69) : Met l yX12_owes (Cond.code yX12_owes cX12_owes 3 none :: GW) ({ frames := 2, cells := 0, slots := 0, locals := 63 } : Room) (va_Pc [.ref M] (PW D cI cJ sz (MW cI cJ M mr mi mf mg) xT)) (va_Qv (fun (u : (Nat → Int32)) => ((u 2).toInt = ((mf 1) 2).toInt) ∧ ((u 3).toInt = ((mf 1) 3).toInt) ∧ ((u 5).toInt = ((mf 1) 5).toInt) ∧ ((u 0).toInt = ((mf 1) 0).toInt)) (fun u => QW D cI cJ (va_A (MW cI cJ M mr mi mf mg) sz) ((fun (u : (Nat → Int32)) => (MW cI cJ M mr mi (va_up mf 1 u) mg)) u)) (va_A (MW cI cJ M mr mi mf mg) sz)) 0 0 (va_A (MW cI cJ M mr mi mf mg) sz) := by
  refine mk_met (y := yX12_owes) (bytes := cX12_owes) (maxL := 3) (avs := [.ref M]) (WS := (MW cI cJ M mr mi mf mg)) (Qf := fun A => va_Qv (fun (u : (Nat → Int32)) => ((u 2).toInt = ((mf 1) 2).toInt) ∧ ((u 3).toInt = ((mf 1) 3).toInt) ∧ ((u 5).toInt = ((mf 1) 5).toInt) ∧ ((u 0).toInt = ((mf 1) 0).toInt)) (fun u => QW D cI cJ A ((fun (u : (Nat → Int32)) => (MW cI cJ M mr mi (va_up mf 1 u) mg)) u)) A) (by decide) (Nat.le_of_ble_eq_true rfl) ?_
  intro p e s m below meth c A ls E hr hlk hnm hX hw1 hl2
  have hl3 : lv_has ls 3 [(0, .ref M)] := hl2
  refine lv_iconst (pc := 0) (v := 0) E.1 E.2.1 dX12_owes_0 (by decide +kernel) ?_
  refine lv_istore_n (pc := 1) (lv' := [(1, .int 0), (0, .ref M)]) E.1 E.2.1 dX12_owes_1 rfl hl3 (by decide) rfl (fun ls hl4 => ?_)
  have loop_5 : ∀ (k : Nat) (x_6 : Int32) (g_7 : Nat → Int32) (H : Heap) (locs : List Loc) (ls : Array Slot), (0 ≤ x_6.toInt) ∧ (x_6.toInt ≤ (mi 6).toInt) ∧ ((g_7 0).toInt = ((mf 1) 0).toInt) ∧ ((g_7 2).toInt = ((mf 1) 2).toInt) ∧ ((g_7 3).toInt = ((mf 1) 3).toInt) ∧ ((g_7 5).toInt = ((mf 1) 5).toInt) → (mi 6).toInt - x_6.toInt < (k : Int) → WD D A s.heap (MW cI cJ M mr mi (va_up mf 1 g_7) mg) H locs → lv_has ls 3 [(1, .int x_6), (0, .ref M)] → W p l e ({ frames := 2, cells := 0, slots := 0, locals := 63 } : Room) s m ([.ref M] : List Value).toArray below meth c H locs 0 0 (MQ below (va_Qv (fun (u : (Nat → Int32)) => ((u 2).toInt = ((mf 1) 2).toInt) ∧ ((u 3).toInt = ((mf 1) 3).toInt) ∧ ((u 5).toInt = ((mf 1) 5).toInt) ∧ ((u 0).toInt = ((mf 1) 0).toInt)) (fun u => QW D cI cJ A ((fun (u : (Nat → Int32)) => (MW cI cJ M mr mi (va_up mf 1 u) mg)) u)) A) ([.ref M] : List Value).toArray s 0 0 A) (F0 m 2 ls []) := by
    intro k
    induction k with
    | zero =>
      intro x_6 g_7 _ _ _ hinv hm
      obtain ⟨hi_7_0, hi_7_1, hi_7_2, hi_7_3, hi_7_4, hi_7_5⟩ := hinv
      exact absurd hm (by omega)
    | succ k ih_8 =>
      intro x_6 g_7 H locs ls hinv hm hw9 hl10
      obtain ⟨hi_7_0, hi_7_1, hi_7_2, hi_7_3, hi_7_4, hi_7_5⟩ := hinv
      refine lv_iload_n (pc := 2) E.1 E.2.1 dX12_owes_2 rfl (lv_at hl10 0 rfl) ?_
      refine lv_aload_n (pc := 3) E.1 E.2.1 dX12_owes_3 rfl (lv_at hl10 1 rfl) ?_
      refine x_get (pc := 4) (T := TX12) (N := 70) (ci := 12) (v := .int (mi 6)) E hw9 inX12 0 6 q_1405 rfl rfl (by decide) rfl rfl dX12_owes_4 ?_
      refine lv_icmp_ge (pc := 7) (tgt := 62) E.1 E.2.1 dX12_owes_7 (by decide) (fun c_11 => ?_) (fun c_11 => ?_)
      · skip
        have hc_11 := leE (a := (mi 6).toInt) (b := x_6.toInt) rfl rfl c_11
        exact em_v (w1 := (fun (u : (Nat → Int32)) => (MW cI cJ M mr mi (va_up mf 1 u) mg))) E hr hlk g_7 hw9 ⟨(by show (g_7 2).toInt = ((mf 1) 2).toInt; omega), (by show (g_7 3).toInt = ((mf 1) 3).toInt; omega), (by show (g_7 5).toInt = ((mf 1) 5).toInt; omega), (by show (g_7 0).toInt = ((mf 1) 0).toInt; omega)⟩ (Nat.le_of_ble_eq_true rfl) (Nat.le_of_ble_eq_true rfl) dX12_owes_62
      · skip
        have hc_11 := nleE (a := (mi 6).toInt) (b := x_6.toInt) rfl rfl c_11
        refine lv_aload_n (pc := 10) E.1 E.2.1 dX12_owes_10 rfl (lv_at hl10 1 rfl) ?_
        refine lv_iload_n (pc := 11) E.1 E.2.1 dX12_owes_11 rfl (lv_at hl10 0 rfl) ?_
        refine cm_i (pc := 12) hw9 (rn_M (As := [.int x_6]) (rest := []) E hw9 (s_sinceLast l D cI cJ _ M mr mi (va_up mf 1 g_7) mg x_6 (by show 0 ≤ x_6.toInt ∧ x_6.toInt ≤ 9; omega)) (gdV q_1863 q_1865 q_98 q_162 q_1866) hdV_X12_sinceLast ⟨rfl, rfl⟩ ⟨(Nat.le_of_ble_eq_true rfl), (Nat.le_of_ble_eq_true rfl)⟩ ⟨(Nat.le_of_ble_eq_true rfl), (Nat.le_of_ble_eq_true rfl)⟩ 12 rfl rfl rfl rfl hl10.1 rfl (Nat.le_of_ble_eq_true rfl) dX12_owes_12) (fun r_13 u_12 H1 locs hp hw14 => ?_)
        generalize H1 = H at hw14 ⊢
        have hw15 : WD D A s.heap (MW cI cJ M mr mi (va_up mf 1 g_7) mg) H locs := hw14
        refine lv_istore_n (pc := 15) (lv' := [(2, .int r_13), (1, .int x_6), (0, .ref M)]) E.1 E.2.1 dX12_owes_15 rfl hl10 (by decide) rfl (fun ls hl16 => ?_)
        refine lv_iload_n (pc := 16) E.1 E.2.1 dX12_owes_16 rfl (lv_at hl16 0 rfl) ?_
        refine lv_if_le (pc := 17) (tgt := 56) E.1 E.2.1 dX12_owes_17 (by decide) (fun c_17 => ?_) (fun c_17 => ?_)
        · skip
          have hc_17 := leE (a := r_13.toInt) (b := 0) rfl (by decide +kernel) c_17
          obtain ⟨v_18, ev_18⟩ : ∃ z : Int32, x_6 + Int32.ofInt (1) = z := ⟨_, rfl⟩
          have hv_18 : v_18.toInt = x_6.toInt + (1) := by rw [← ev_18]; exact incE rfl (by decide) (by omega)
          refine lv_iinc (pc := 56) (v := v_18) (lv' := [(1, .int v_18), (2, .int r_13), (0, .ref M)]) E.1 E.2.1 dX12_owes_56 hl16 (k := 1) rfl ev_18 (by decide) rfl (fun ls hl19 => ?_)
          refine lv_goto (pc := 59) (tgt := 2) E.1 E.2.1 dX12_owes_59 (by decide) ?_
          exact ih_8 v_18 g_7 _ _ _ ⟨(by show 0 ≤ v_18.toInt; omega), (by show v_18.toInt ≤ (mi 6).toInt; omega), (by show (g_7 0).toInt = ((mf 1) 0).toInt; omega), (by show (g_7 2).toInt = ((mf 1) 2).toInt; omega), (by show (g_7 3).toInt = ((mf 1) 3).toInt; omega), (by show (g_7 5).toInt = ((mf 1) 5).toInt; omega)⟩ (by omega) hw15 (lv_sub hl19 [0, 2] rfl)
        · skip
          have hc_17 := nleE (a := r_13.toInt) (b := 0) rfl (by decide +kernel) c_17
          refine lv_iload_n (pc := 20) E.1 E.2.1 dX12_owes_20 rfl (lv_at hl16 0 rfl) ?_
          refine lv_aload_n (pc := 21) E.1 E.2.1 dX12_owes_21 rfl (lv_at hl16 2 rfl) ?_
          refine cm_i (pc := 22) hw15 (rn_M (As := []) (rest := [.int r_13]) E hw15 (s_due l D cI cJ _ M mr mi (va_up mf 1 g_7) mg (by show (-29) ≤ (mi 15).toInt ∧ (mi 15).toInt ≤ 69; omega)) (gdV q_1911 q_1913 q_110 q_162 q_1914) hdV_X12_due ⟨rfl, rfl⟩ ⟨(Nat.le_of_ble_eq_true rfl), (Nat.le_of_ble_eq_true rfl)⟩ ⟨(Nat.le_of_ble_eq_true rfl), (Nat.le_of_ble_eq_true rfl)⟩ 12 rfl rfl rfl rfl hl16.1 rfl (Nat.le_of_ble_eq_true rfl) dX12_owes_22) (fun r_21 u_20 H1 locs hp hw22 => ?_)
          generalize H1 = H at hw22 ⊢
          have hw23 : WD D A s.heap (MW cI cJ M mr mi (va_up mf 1 g_7) mg) H locs := hw22
          have hp_24 := hp
          have hp_24 : 1 ≤ r_21.toInt ∧ r_21.toInt ≤ 99 := hp_24
          refine lv_irem (pc := 25) E.1 E.2.1 dX12_owes_25 (mneE (a := r_21.toInt) (b := 0) rfl (by decide +kernel) (by omega)) ?_
          refine lv_topi (fun v_25 ev_25 => ?_)
          refine lv_if_ne (pc := 26) (tgt := 56) E.1 E.2.1 dX12_owes_26 (by decide) (fun c_26 => ?_) (fun c_26 => ?_)
          · skip
            have hc_26 := neE (a := v_25.toInt) (b := 0) rfl (by decide +kernel) c_26
            obtain ⟨v_27, ev_27⟩ : ∃ z : Int32, x_6 + Int32.ofInt (1) = z := ⟨_, rfl⟩
            have hv_27 : v_27.toInt = x_6.toInt + (1) := by rw [← ev_27]; exact incE rfl (by decide) (by omega)
            refine lv_iinc (pc := 56) (v := v_27) (lv' := [(1, .int v_27), (2, .int r_13), (0, .ref M)]) E.1 E.2.1 dX12_owes_56 hl16 (k := 1) rfl ev_27 (by decide) rfl (fun ls hl28 => ?_)
            refine lv_goto (pc := 59) (tgt := 2) E.1 E.2.1 dX12_owes_59 (by decide) ?_
            exact ih_8 v_27 g_7 _ _ _ ⟨(by show 0 ≤ v_27.toInt; omega), (by show v_27.toInt ≤ (mi 6).toInt; omega), (by show (g_7 0).toInt = ((mf 1) 0).toInt; omega), (by show (g_7 2).toInt = ((mf 1) 2).toInt; omega), (by show (g_7 3).toInt = ((mf 1) 3).toInt; omega), (by show (g_7 5).toInt = ((mf 1) 5).toInt; omega)⟩ (by omega) hw23 (lv_sub hl28 [0, 2] rfl)
          · skip
            have hc_26 := eqE (a := v_25.toInt) (b := 0) rfl (by decide +kernel) c_26
            refine lv_aload_n (pc := 29) E.1 E.2.1 dX12_owes_29 rfl (lv_at hl16 2 rfl) ?_
            refine x_get (pc := 30) (T := TX12) (N := 70) (ci := 12) (v := .ref (mr 1)) E hw23 inX12 0 1 q_1400 rfl rfl (by decide) rfl rfl dX12_owes_30 ?_
            refine lv_bipush (pc := 33) (v := 16) E.1 E.2.1 dX12_owes_33 (by decide +kernel) ?_
            refine lv_iload_n (pc := 35) E.1 E.2.1 dX12_owes_35 rfl (lv_at hl16 1 rfl) ?_
            refine lv_iadd (pc := 36) E.1 E.2.1 dX12_owes_36 ?_
            refine lv_topi (fun v_29 ev_29 => ?_)
            have hv_29 : v_29.toInt = 16 + x_6.toInt := by rw [ev_29]; exact addE (by decide +kernel) rfl (by omega)
            refine lv_aload_n (pc := 37) E.1 E.2.1 dX12_owes_37 rfl (lv_at hl16 2 rfl) ?_
            refine lv_aload_n (pc := 38) E.1 E.2.1 dX12_owes_38 rfl (lv_at hl16 2 rfl) ?_
            refine x_get (pc := 39) (T := TX12) (N := 70) (ci := 12) (v := .ref (mr 1)) E hw23 inX12 0 1 q_1400 rfl rfl (by decide) rfl rfl dX12_owes_39 ?_
            refine lv_bipush (pc := 42) (v := 16) E.1 E.2.1 dX12_owes_42 (by decide +kernel) ?_
            refine lv_iload_n (pc := 44) E.1 E.2.1 dX12_owes_44 rfl (lv_at hl16 1 rfl) ?_
            refine lv_iadd (pc := 45) E.1 E.2.1 dX12_owes_45 ?_
            refine lv_topi (fun v_30 ev_30 => ?_)
            have hv_30 : v_30.toInt = 16 + x_6.toInt := by rw [ev_30]; exact addE (by decide +kernel) rfl (by omega)
            refine x_iald (pc := 46) (f := g_7) E hw23 1 rfl (inbE (a := v_30.toInt) rfl (by omega)) dX12_owes_46 ?_
            refine lv_topi (fun v_31 ev_31 => ?_)
            refine lv_iconst (pc := 47) (v := 1) E.1 E.2.1 dX12_owes_47 (by decide +kernel) ?_
            refine lv_iadd (pc := 48) E.1 E.2.1 dX12_owes_48 ?_
            refine lv_topi (fun v_32 ev_32 => ?_)
            refine lv_iconst (pc := 49) (v := 0) E.1 E.2.1 dX12_owes_49 (by decide +kernel) ?_
            refine lv_bipush (pc := 50) (v := 99) E.1 E.2.1 dX12_owes_50 (by decide +kernel) ?_
            refine cm_i (pc := 52) hw23 (rn_M (As := [.int v_32, .int 0, .int 99]) (rest := [.int v_29, .ref (mr 1)]) E hw23 (s_held l D cI cJ _ M mr mi (va_up mf 1 g_7) mg v_32 0 99 (by show (0 : Int32).toInt ≤ (99 : Int32).toInt; have k_0 : (0 : Int32).toInt = 0 := (by decide +kernel); have k_1 : (99 : Int32).toInt = 99 := (by decide +kernel); omega)) (gdV q_1895 q_1897 q_106 q_162 q_1898) hdV_X12_held ⟨rfl, rfl⟩ ⟨(Nat.le_of_ble_eq_true rfl), (Nat.le_of_ble_eq_true rfl)⟩ ⟨(Nat.le_of_ble_eq_true rfl), (Nat.le_of_ble_eq_true rfl)⟩ 12 rfl rfl rfl rfl hl16.1 rfl (Nat.le_of_ble_eq_true rfl) dX12_owes_52) (fun r_34 u_33 H1 locs hp hw35 => ?_)
            generalize H1 = H at hw35 ⊢
            have hw36 : WD D A s.heap (MW cI cJ M mr mi (va_up mf 1 g_7) mg) H locs := hw35
            have hp_37 := hp
            have hp_37 : (0 : Int32).toInt ≤ r_34.toInt ∧ r_34.toInt ≤ (99 : Int32).toInt := hp_37
            rw [show (0 : Int32).toInt = 0 from by decide +kernel] at hp_37
            rw [show (99 : Int32).toInt = 99 from by decide +kernel] at hp_37
            refine x_iastG (pc := 55) (f := g_7) (wf := fun g => (MW cI cJ M mr mi (va_up mf 1 g) mg)) E hw36 1 rfl (inbE (a := v_29.toInt) rfl (by omega)) (fun _ => rfl) dX12_owes_55 (fun g_38 H locs eg_38 hw39 => ?_)
            have ht_40 : (g_38 0).toInt = (g_7 0).toInt := by rw [eg_38, pk_un (by have q9 := idxI (x := v_29) (by omega); omega)]
            have ht_41 : (g_38 2).toInt = (g_7 2).toInt := by rw [eg_38, pk_un (by have q9 := idxI (x := v_29) (by omega); omega)]
            have ht_42 : (g_38 3).toInt = (g_7 3).toInt := by rw [eg_38, pk_un (by have q9 := idxI (x := v_29) (by omega); omega)]
            have ht_43 : (g_38 5).toInt = (g_7 5).toInt := by rw [eg_38, pk_un (by have q9 := idxI (x := v_29) (by omega); omega)]
            obtain ⟨v_44, ev_44⟩ : ∃ z : Int32, x_6 + Int32.ofInt (1) = z := ⟨_, rfl⟩
            have hv_44 : v_44.toInt = x_6.toInt + (1) := by rw [← ev_44]; exact incE rfl (by decide) (by omega)
            refine lv_iinc (pc := 56) (v := v_44) (lv' := [(1, .int v_44), (2, .int r_13), (0, .ref M)]) E.1 E.2.1 dX12_owes_56 hl16 (k := 1) rfl ev_44 (by decide) rfl (fun ls hl45 => ?_)
            refine lv_goto (pc := 59) (tgt := 2) E.1 E.2.1 dX12_owes_59 (by decide) ?_
            exact ih_8 v_44 g_38 _ _ _ ⟨(by show 0 ≤ v_44.toInt; omega), (by show v_44.toInt ≤ (mi 6).toInt; omega), (by show (g_38 0).toInt = ((mf 1) 0).toInt; omega), (by show (g_38 2).toInt = ((mf 1) 2).toInt; omega), (by show (g_38 3).toInt = ((mf 1) 3).toInt; omega), (by show (g_38 5).toInt = ((mf 1) 5).toInt; omega)⟩ (by omega) hw39 (lv_sub hl45 [0, 2] rfl)
  exact loop_5 (Int.toNat ((mi 6).toInt - 0) + 1) 0 (mf 1) _ _ _ ⟨(by show 0 ≤ (0 : Int32).toInt; have k_0 : (0 : Int32).toInt = 0 := (by decide +kernel); omega), (by show (0 : Int32).toInt ≤ (mi 6).toInt; have k_0 : (0 : Int32).toInt = 0 := (by decide +kernel); omega), (by show ((mf 1) 0).toInt = ((mf 1) 0).toInt; omega), (by show ((mf 1) 2).toInt = ((mf 1) 2).toInt; omega), (by show ((mf 1) 3).toInt = ((mf 1) 3).toInt; omega), (by show ((mf 1) 5).toInt = ((mf 1) 5).toInt; omega)⟩ (by have k_0 : (0 : Int32).toInt = 0 := (by decide +kernel); omega) hw1 (lv_sub hl4 [0, 1] rfl)

set_option maxHeartbeats 4000000 in
set_option maxRecDepth 100000 in
theorem s_spoilsU (l : Launch) (D : va_G) (cI cJ : ClassId) (sz M : Nat) (mr : Nat → Nat) (mi : Nat → Int32) (mf : Nat → Nat → Int32) (mg : Nat → Nat → Int64)  (h0 : 0 ≤ (mi 44).toInt ∧ (mi 44).toInt ≤ 10) : Met l yX12_spoils (Cond.code yX12_spoils cX12_spoils 2 none :: GW) ({ frames := 2, cells := 0, slots := 0, locals := 62 } : Room) (va_Pc [.ref M] (PW D cI cJ sz (MW cI cJ M mr mi mf mg) xT)) (va_Qv (fun (u : (Nat → Int32)) => ((u 2).toInt = ((mf 1) 2).toInt) ∧ ((u 3).toInt = ((mf 1) 3).toInt) ∧ ((u 5).toInt = ((mf 1) 5).toInt) ∧ ((u 0).toInt = ((mf 1) 0).toInt)) (fun u => QW D cI cJ (va_A (MW cI cJ M mr mi mf mg) sz) ((fun (u : (Nat → Int32)) => (MW cI cJ M mr mi (va_up mf 1 u) mg)) u)) (va_A (MW cI cJ M mr mi mf mg) sz)) 0 0 (va_A (MW cI cJ M mr mi mf mg) sz) := by
  refine mk_met (y := yX12_spoils) (bytes := cX12_spoils) (maxL := 2) (avs := [.ref M]) (WS := (MW cI cJ M mr mi mf mg)) (Qf := fun A => va_Qv (fun (u : (Nat → Int32)) => ((u 2).toInt = ((mf 1) 2).toInt) ∧ ((u 3).toInt = ((mf 1) 3).toInt) ∧ ((u 5).toInt = ((mf 1) 5).toInt) ∧ ((u 0).toInt = ((mf 1) 0).toInt)) (fun u => QW D cI cJ A ((fun (u : (Nat → Int32)) => (MW cI cJ M mr mi (va_up mf 1 u) mg)) u)) A) (by decide) (Nat.le_of_ble_eq_true rfl) ?_
  intro p e s m below meth c A ls E hr hlk hnm hX hw1 hl2
  have hl3 : lv_has ls 2 [(0, .ref M)] := hl2
  refine lv_iconst (pc := 0) (v := 0) E.1 E.2.1 dX12_spoils_0 (by decide +kernel) ?_
  refine lv_istore_n (pc := 1) (lv' := [(1, .int 0), (0, .ref M)]) E.1 E.2.1 dX12_spoils_1 rfl hl3 (by decide) rfl (fun ls hl4 => ?_)
  have loop_5 : ∀ (k : Nat) (x_6 : Int32) (g_7 : Nat → Int32) (H : Heap) (locs : List Loc) (ls : Array Slot), (0 ≤ x_6.toInt) ∧ (x_6.toInt ≤ (mi 44).toInt) ∧ ((g_7 0).toInt = ((mf 1) 0).toInt) ∧ ((g_7 2).toInt = ((mf 1) 2).toInt) ∧ ((g_7 3).toInt = ((mf 1) 3).toInt) ∧ ((g_7 5).toInt = ((mf 1) 5).toInt) → (mi 44).toInt - x_6.toInt < (k : Int) → WD D A s.heap (MW cI cJ M mr mi (va_up mf 1 g_7) mg) H locs → lv_has ls 2 [(1, .int x_6), (0, .ref M)] → W p l e ({ frames := 2, cells := 0, slots := 0, locals := 62 } : Room) s m ([.ref M] : List Value).toArray below meth c H locs 0 0 (MQ below (va_Qv (fun (u : (Nat → Int32)) => ((u 2).toInt = ((mf 1) 2).toInt) ∧ ((u 3).toInt = ((mf 1) 3).toInt) ∧ ((u 5).toInt = ((mf 1) 5).toInt) ∧ ((u 0).toInt = ((mf 1) 0).toInt)) (fun u => QW D cI cJ A ((fun (u : (Nat → Int32)) => (MW cI cJ M mr mi (va_up mf 1 u) mg)) u)) A) ([.ref M] : List Value).toArray s 0 0 A) (F0 m 2 ls []) := by
    intro k
    induction k with
    | zero =>
      intro x_6 g_7 _ _ _ hinv hm
      obtain ⟨hi_7_0, hi_7_1, hi_7_2, hi_7_3, hi_7_4, hi_7_5⟩ := hinv
      exact absurd hm (by omega)
    | succ k ih_8 =>
      intro x_6 g_7 H locs ls hinv hm hw9 hl10
      obtain ⟨hi_7_0, hi_7_1, hi_7_2, hi_7_3, hi_7_4, hi_7_5⟩ := hinv
      refine lv_iload_n (pc := 2) E.1 E.2.1 dX12_spoils_2 rfl (lv_at hl10 0 rfl) ?_
      refine lv_aload_n (pc := 3) E.1 E.2.1 dX12_spoils_3 rfl (lv_at hl10 1 rfl) ?_
      refine x_get (pc := 4) (T := TX12) (N := 70) (ci := 12) (v := .int (mi 44)) E hw9 inX12 0 44 q_1443 rfl rfl (by decide) rfl rfl dX12_spoils_4 ?_
      refine lv_icmp_ge (pc := 7) (tgt := 53) E.1 E.2.1 dX12_spoils_7 (by decide) (fun c_11 => ?_) (fun c_11 => ?_)
      · skip
        have hc_11 := leE (a := (mi 44).toInt) (b := x_6.toInt) rfl rfl c_11
        exact em_v (w1 := (fun (u : (Nat → Int32)) => (MW cI cJ M mr mi (va_up mf 1 u) mg))) E hr hlk g_7 hw9 ⟨(by show (g_7 2).toInt = ((mf 1) 2).toInt; omega), (by show (g_7 3).toInt = ((mf 1) 3).toInt; omega), (by show (g_7 5).toInt = ((mf 1) 5).toInt; omega), (by show (g_7 0).toInt = ((mf 1) 0).toInt; omega)⟩ (Nat.le_of_ble_eq_true rfl) (Nat.le_of_ble_eq_true rfl) dX12_spoils_53
      · skip
        have hc_11 := nleE (a := (mi 44).toInt) (b := x_6.toInt) rfl rfl c_11
        refine lv_aload_n (pc := 10) E.1 E.2.1 dX12_spoils_10 rfl (lv_at hl10 1 rfl) ?_
        refine x_get (pc := 11) (T := TX12) (N := 70) (ci := 12) (v := .ref (mr 1)) E hw9 inX12 0 1 q_1400 rfl rfl (by decide) rfl rfl dX12_spoils_11 ?_
        refine lv_bipush (pc := 14) (v := 46) E.1 E.2.1 dX12_spoils_14 (by decide +kernel) ?_
        refine lv_iload_n (pc := 16) E.1 E.2.1 dX12_spoils_16 rfl (lv_at hl10 0 rfl) ?_
        refine lv_iadd (pc := 17) E.1 E.2.1 dX12_spoils_17 ?_
        refine lv_topi (fun v_12 ev_12 => ?_)
        have hv_12 : v_12.toInt = 46 + x_6.toInt := by rw [ev_12]; exact addE (by decide +kernel) rfl (by omega)
        refine x_iald (pc := 18) (f := g_7) E hw9 1 rfl (inbE (a := v_12.toInt) rfl (by omega)) dX12_spoils_18 ?_
        refine lv_topi (fun v_13 ev_13 => ?_)
        refine lv_if_ne (pc := 19) (tgt := 47) E.1 E.2.1 dX12_spoils_19 (by decide) (fun c_14 => ?_) (fun c_14 => ?_)
        · skip
          have hc_14 := neE (a := v_13.toInt) (b := 0) rfl (by decide +kernel) c_14
          obtain ⟨v_15, ev_15⟩ : ∃ z : Int32, x_6 + Int32.ofInt (1) = z := ⟨_, rfl⟩
          have hv_15 : v_15.toInt = x_6.toInt + (1) := by rw [← ev_15]; exact incE rfl (by decide) (by omega)
          refine lv_iinc (pc := 47) (v := v_15) (lv' := [(1, .int v_15), (0, .ref M)]) E.1 E.2.1 dX12_spoils_47 hl10 (k := 0) rfl ev_15 (by decide) rfl (fun ls hl16 => ?_)
          refine lv_goto (pc := 50) (tgt := 2) E.1 E.2.1 dX12_spoils_50 (by decide) ?_
          exact ih_8 v_15 g_7 _ _ _ ⟨(by show 0 ≤ v_15.toInt; omega), (by show v_15.toInt ≤ (mi 44).toInt; omega), (by show (g_7 0).toInt = ((mf 1) 0).toInt; omega), (by show (g_7 2).toInt = ((mf 1) 2).toInt; omega), (by show (g_7 3).toInt = ((mf 1) 3).toInt; omega), (by show (g_7 5).toInt = ((mf 1) 5).toInt; omega)⟩ (by omega) hw9 (lv_sub hl16 [0, 1] rfl)
        · skip
          have hc_14 := eqE (a := v_13.toInt) (b := 0) rfl (by decide +kernel) c_14
          refine lv_aload_n (pc := 22) E.1 E.2.1 dX12_spoils_22 rfl (lv_at hl10 1 rfl) ?_
          refine lv_iload_n (pc := 23) E.1 E.2.1 dX12_spoils_23 rfl (lv_at hl10 0 rfl) ?_
          refine lv_iconst (pc := 24) (v := 3) E.1 E.2.1 dX12_spoils_24 (by decide +kernel) ?_
          refine cm_i (pc := 25) hw9 (rn_M (As := [.int x_6, .int 3]) (rest := []) E hw9 (s_ofNeed l D cI cJ _ M mr mi (va_up mf 1 g_7) mg x_6 3 (by show 0 ≤ x_6.toInt ∧ x_6.toInt ≤ 9; omega) (by show 0 ≤ (3 : Int32).toInt ∧ (3 : Int32).toInt ≤ 4; have k_0 : (3 : Int32).toInt = 3 := (by decide +kernel); omega)) (gdV q_1871 q_1873 q_100 q_162 q_1874) hdV_X12_ofNeed ⟨rfl, rfl⟩ ⟨(Nat.le_of_ble_eq_true rfl), (Nat.le_of_ble_eq_true rfl)⟩ ⟨(Nat.le_of_ble_eq_true rfl), (Nat.le_of_ble_eq_true rfl)⟩ 12 rfl rfl rfl rfl hl10.1 rfl (Nat.le_of_ble_eq_true rfl) dX12_spoils_25) (fun r_18 u_17 H1 locs hp hw19 => ?_)
          generalize H1 = H at hw19 ⊢
          have hw20 : WD D A s.heap (MW cI cJ M mr mi (va_up mf 1 g_7) mg) H locs := hw19
          refine lv_aload_n (pc := 28) E.1 E.2.1 dX12_spoils_28 rfl (lv_at hl10 1 rfl) ?_
          refine x_get (pc := 29) (T := TX12) (N := 70) (ci := 12) (v := .ref (mr 1)) E hw20 inX12 0 1 q_1400 rfl rfl (by decide) rfl rfl dX12_spoils_29 ?_
          refine lv_iconst (pc := 32) (v := 0) E.1 E.2.1 dX12_spoils_32 (by decide +kernel) ?_
          refine x_iald (pc := 33) (f := g_7) E hw20 1 rfl (inbE (a := 0) (by decide +kernel) (by omega)) dX12_spoils_33 ?_
          refine lv_topi (fun v_21 ev_21 => ?_)
          have hv_21 : v_21.toInt = (g_7 0).toInt := by rw [ev_21]; rfl
          refine lv_icmp_ne (pc := 34) (tgt := 47) E.1 E.2.1 dX12_spoils_34 (by decide) (fun c_22 => ?_) (fun c_22 => ?_)
          · skip
            have hc_22 := neE (a := r_18.toInt) (b := v_21.toInt) rfl rfl c_22
            obtain ⟨v_23, ev_23⟩ : ∃ z : Int32, x_6 + Int32.ofInt (1) = z := ⟨_, rfl⟩
            have hv_23 : v_23.toInt = x_6.toInt + (1) := by rw [← ev_23]; exact incE rfl (by decide) (by omega)
            refine lv_iinc (pc := 47) (v := v_23) (lv' := [(1, .int v_23), (0, .ref M)]) E.1 E.2.1 dX12_spoils_47 hl10 (k := 0) rfl ev_23 (by decide) rfl (fun ls hl24 => ?_)
            refine lv_goto (pc := 50) (tgt := 2) E.1 E.2.1 dX12_spoils_50 (by decide) ?_
            exact ih_8 v_23 g_7 _ _ _ ⟨(by show 0 ≤ v_23.toInt; omega), (by show v_23.toInt ≤ (mi 44).toInt; omega), (by show (g_7 0).toInt = ((mf 1) 0).toInt; omega), (by show (g_7 2).toInt = ((mf 1) 2).toInt; omega), (by show (g_7 3).toInt = ((mf 1) 3).toInt; omega), (by show (g_7 5).toInt = ((mf 1) 5).toInt; omega)⟩ (by omega) hw20 (lv_sub hl24 [0, 1] rfl)
          · skip
            have hc_22 := eqE (a := r_18.toInt) (b := v_21.toInt) rfl rfl c_22
            refine lv_aload_n (pc := 37) E.1 E.2.1 dX12_spoils_37 rfl (lv_at hl10 1 rfl) ?_
            refine x_get (pc := 38) (T := TX12) (N := 70) (ci := 12) (v := .ref (mr 1)) E hw20 inX12 0 1 q_1400 rfl rfl (by decide) rfl rfl dX12_spoils_38 ?_
            refine lv_bipush (pc := 41) (v := 56) E.1 E.2.1 dX12_spoils_41 (by decide +kernel) ?_
            refine lv_iload_n (pc := 43) E.1 E.2.1 dX12_spoils_43 rfl (lv_at hl10 0 rfl) ?_
            refine lv_iadd (pc := 44) E.1 E.2.1 dX12_spoils_44 ?_
            refine lv_topi (fun v_25 ev_25 => ?_)
            have hv_25 : v_25.toInt = 56 + x_6.toInt := by rw [ev_25]; exact addE (by decide +kernel) rfl (by omega)
            refine lv_iconst (pc := 45) (v := 1) E.1 E.2.1 dX12_spoils_45 (by decide +kernel) ?_
            refine x_iastG (pc := 46) (f := g_7) (wf := fun g => (MW cI cJ M mr mi (va_up mf 1 g) mg)) E hw20 1 rfl (inbE (a := v_25.toInt) rfl (by omega)) (fun _ => rfl) dX12_spoils_46 (fun g_26 H locs eg_26 hw27 => ?_)
            have ht_28 : (g_26 0).toInt = (g_7 0).toInt := by rw [eg_26, pk_un (by have q9 := idxI (x := v_25) (by omega); omega)]
            have ht_29 : (g_26 2).toInt = (g_7 2).toInt := by rw [eg_26, pk_un (by have q9 := idxI (x := v_25) (by omega); omega)]
            have ht_30 : (g_26 3).toInt = (g_7 3).toInt := by rw [eg_26, pk_un (by have q9 := idxI (x := v_25) (by omega); omega)]
            have ht_31 : (g_26 5).toInt = (g_7 5).toInt := by rw [eg_26, pk_un (by have q9 := idxI (x := v_25) (by omega); omega)]
            obtain ⟨v_32, ev_32⟩ : ∃ z : Int32, x_6 + Int32.ofInt (1) = z := ⟨_, rfl⟩
            have hv_32 : v_32.toInt = x_6.toInt + (1) := by rw [← ev_32]; exact incE rfl (by decide) (by omega)
            refine lv_iinc (pc := 47) (v := v_32) (lv' := [(1, .int v_32), (0, .ref M)]) E.1 E.2.1 dX12_spoils_47 hl10 (k := 0) rfl ev_32 (by decide) rfl (fun ls hl33 => ?_)
            refine lv_goto (pc := 50) (tgt := 2) E.1 E.2.1 dX12_spoils_50 (by decide) ?_
            exact ih_8 v_32 g_26 _ _ _ ⟨(by show 0 ≤ v_32.toInt; omega), (by show v_32.toInt ≤ (mi 44).toInt; omega), (by show (g_26 0).toInt = ((mf 1) 0).toInt; omega), (by show (g_26 2).toInt = ((mf 1) 2).toInt; omega), (by show (g_26 3).toInt = ((mf 1) 3).toInt; omega), (by show (g_26 5).toInt = ((mf 1) 5).toInt; omega)⟩ (by omega) hw27 (lv_sub hl33 [0, 1] rfl)
  exact loop_5 (Int.toNat ((mi 44).toInt - 0) + 1) 0 (mf 1) _ _ _ ⟨(by show 0 ≤ (0 : Int32).toInt; have k_0 : (0 : Int32).toInt = 0 := (by decide +kernel); omega), (by show (0 : Int32).toInt ≤ (mi 44).toInt; have k_0 : (0 : Int32).toInt = 0 := (by decide +kernel); omega), (by show ((mf 1) 0).toInt = ((mf 1) 0).toInt; omega), (by show ((mf 1) 2).toInt = ((mf 1) 2).toInt; omega), (by show ((mf 1) 3).toInt = ((mf 1) 3).toInt; omega), (by show ((mf 1) 5).toInt = ((mf 1) 5).toInt; omega)⟩ (by have k_0 : (0 : Int32).toInt = 0 := (by decide +kernel); omega) hw1 (lv_sub hl4 [0, 1] rfl)

set_option maxHeartbeats 4000000 in
set_option maxRecDepth 100000 in
theorem s_doesNeedsU (l : Launch) (D : va_G) (cI cJ : ClassId) (sz M : Nat) (mr : Nat → Nat) (mi : Nat → Int32) (mf : Nat → Nat → Int32) (mg : Nat → Nat → Int64) (z_h : Int32) (z_w : Int32) (h0 : 0 ≤ (mi 44).toInt ∧ (mi 44).toInt ≤ 10) : Met l yX12_doesNeeds (Cond.code yX12_doesNeeds cX12_doesNeeds 5 (some .int) :: GW) ({ frames := 3, cells := 0, slots := 0, locals := 84 } : Room) (va_Pc [.ref M, .int z_h, .int z_w] (PW D cI cJ sz (MW cI cJ M mr mi mf mg) xT)) (va_Qi (fun (r : Int32) (u : (Nat → Int32)) => ((u 2).toInt = ((mf 1) 2).toInt) ∧ ((u 3).toInt = ((mf 1) 3).toInt) ∧ ((u 5).toInt = ((mf 1) 5).toInt) ∧ ((u 0).toInt = ((mf 1) 0).toInt)) (fun u => QW D cI cJ (va_A (MW cI cJ M mr mi mf mg) sz) ((fun (u : (Nat → Int32)) => (MW cI cJ M mr mi (va_up mf 1 u) mg)) u)) (va_A (MW cI cJ M mr mi mf mg) sz)) 0 0 (va_A (MW cI cJ M mr mi mf mg) sz) := by
  refine mk_met (y := yX12_doesNeeds) (bytes := cX12_doesNeeds) (maxL := 5) (avs := [.ref M, .int z_h, .int z_w]) (WS := (MW cI cJ M mr mi mf mg)) (Qf := fun A => va_Qi (fun (r : Int32) (u : (Nat → Int32)) => ((u 2).toInt = ((mf 1) 2).toInt) ∧ ((u 3).toInt = ((mf 1) 3).toInt) ∧ ((u 5).toInt = ((mf 1) 5).toInt) ∧ ((u 0).toInt = ((mf 1) 0).toInt)) (fun u => QW D cI cJ A ((fun (u : (Nat → Int32)) => (MW cI cJ M mr mi (va_up mf 1 u) mg)) u)) A) (by decide) (Nat.le_of_ble_eq_true rfl) ?_
  intro p e s m below meth c A ls E hr hlk hnm hX hw1 hl2
  have hl3 : lv_has ls 5 [(0, .ref M), (1, .int z_h), (2, .int z_w)] := hl2
  refine lv_iconst (pc := 0) (v := 0) E.1 E.2.1 dX12_doesNeeds_0 (by decide +kernel) ?_
  refine lv_istore_n (pc := 1) (lv' := [(3, .int 0), (0, .ref M), (1, .int z_h), (2, .int z_w)]) E.1 E.2.1 dX12_doesNeeds_1 rfl hl3 (by decide) rfl (fun ls hl4 => ?_)
  refine lv_iconst (pc := 2) (v := 0) E.1 E.2.1 dX12_doesNeeds_2 (by decide +kernel) ?_
  refine lv_istore (pc := 3) (lv' := [(4, .int 0), (3, .int 0), (0, .ref M), (1, .int z_h), (2, .int z_w)]) E.1 E.2.1 dX12_doesNeeds_3 hl4 (by decide) rfl (fun ls hl5 => ?_)
  have loop_6 : ∀ (k : Nat) (x_7 : Int32) (x_8 : Int32) (g_9 : Nat → Int32) (H : Heap) (locs : List Loc) (ls : Array Slot), (0 ≤ x_7.toInt) ∧ (x_7.toInt ≤ (mi 44).toInt) ∧ ((g_9 0).toInt = ((mf 1) 0).toInt) ∧ ((g_9 2).toInt = ((mf 1) 2).toInt) ∧ ((g_9 3).toInt = ((mf 1) 3).toInt) ∧ ((g_9 5).toInt = ((mf 1) 5).toInt) → (mi 44).toInt - x_7.toInt < (k : Int) → WD D A s.heap (MW cI cJ M mr mi (va_up mf 1 g_9) mg) H locs → lv_has ls 5 [(4, .int x_7), (3, .int x_8), (0, .ref M), (1, .int z_h), (2, .int z_w)] → W p l e ({ frames := 3, cells := 0, slots := 0, locals := 84 } : Room) s m ([.ref M, .int z_h, .int z_w] : List Value).toArray below meth c H locs 0 0 (MQ below (va_Qi (fun (r : Int32) (u : (Nat → Int32)) => ((u 2).toInt = ((mf 1) 2).toInt) ∧ ((u 3).toInt = ((mf 1) 3).toInt) ∧ ((u 5).toInt = ((mf 1) 5).toInt) ∧ ((u 0).toInt = ((mf 1) 0).toInt)) (fun u => QW D cI cJ A ((fun (u : (Nat → Int32)) => (MW cI cJ M mr mi (va_up mf 1 u) mg)) u)) A) ([.ref M, .int z_h, .int z_w] : List Value).toArray s 0 0 A) (F0 m 5 ls []) := by
    intro k
    induction k with
    | zero =>
      intro x_7 x_8 g_9 _ _ _ hinv hm
      obtain ⟨hi_9_0, hi_9_1, hi_9_2, hi_9_3, hi_9_4, hi_9_5⟩ := hinv
      exact absurd hm (by omega)
    | succ k ih_10 =>
      intro x_7 x_8 g_9 H locs ls hinv hm hw11 hl12
      obtain ⟨hi_9_0, hi_9_1, hi_9_2, hi_9_3, hi_9_4, hi_9_5⟩ := hinv
      refine lv_iload (pc := 5) E.1 E.2.1 dX12_doesNeeds_5 (lv_at hl12 0 rfl) ?_
      refine lv_aload_n (pc := 7) E.1 E.2.1 dX12_doesNeeds_7 rfl (lv_at hl12 2 rfl) ?_
      refine x_get (pc := 8) (T := TX12) (N := 70) (ci := 12) (v := .int (mi 44)) E hw11 inX12 0 44 q_1443 rfl rfl (by decide) rfl rfl dX12_doesNeeds_8 ?_
      refine lv_icmp_ge (pc := 11) (tgt := 83) E.1 E.2.1 dX12_doesNeeds_11 (by decide) (fun c_13 => ?_) (fun c_13 => ?_)
      · skip
        have hc_13 := leE (a := (mi 44).toInt) (b := x_7.toInt) rfl rfl c_13
        refine lv_iload_n (pc := 83) E.1 E.2.1 dX12_doesNeeds_83 rfl (lv_at hl12 1 rfl) ?_
        exact em_i (w1 := (fun (u : (Nat → Int32)) => (MW cI cJ M mr mi (va_up mf 1 u) mg))) E hr hlk g_9 hw11 ⟨(by show (g_9 2).toInt = ((mf 1) 2).toInt; omega), (by show (g_9 3).toInt = ((mf 1) 3).toInt; omega), (by show (g_9 5).toInt = ((mf 1) 5).toInt; omega), (by show (g_9 0).toInt = ((mf 1) 0).toInt; omega)⟩ (Nat.le_of_ble_eq_true rfl) (Nat.le_of_ble_eq_true rfl) dX12_doesNeeds_84
      · skip
        have hc_13 := nleE (a := (mi 44).toInt) (b := x_7.toInt) rfl rfl c_13
        refine lv_aload_n (pc := 14) E.1 E.2.1 dX12_doesNeeds_14 rfl (lv_at hl12 2 rfl) ?_
        refine lv_iload (pc := 15) E.1 E.2.1 dX12_doesNeeds_15 (lv_at hl12 0 rfl) ?_
        refine lv_iconst (pc := 17) (v := 1) E.1 E.2.1 dX12_doesNeeds_17 (by decide +kernel) ?_
        refine cm_i (pc := 18) hw11 (rn_M (As := [.int x_7, .int 1]) (rest := []) E hw11 (s_ofNeed l D cI cJ _ M mr mi (va_up mf 1 g_9) mg x_7 1 (by show 0 ≤ x_7.toInt ∧ x_7.toInt ≤ 9; omega) (by show 0 ≤ (1 : Int32).toInt ∧ (1 : Int32).toInt ≤ 4; have k_0 : (1 : Int32).toInt = 1 := (by decide +kernel); omega)) (gdV q_1871 q_1873 q_100 q_162 q_1874) hdV_X12_ofNeed ⟨rfl, rfl⟩ ⟨(Nat.le_of_ble_eq_true rfl), (Nat.le_of_ble_eq_true rfl)⟩ ⟨(Nat.le_of_ble_eq_true rfl), (Nat.le_of_ble_eq_true rfl)⟩ 12 rfl rfl rfl rfl hl12.1 rfl (Nat.le_of_ble_eq_true rfl) dX12_doesNeeds_18) (fun r_15 u_14 H1 locs hp hw16 => ?_)
        generalize H1 = H at hw16 ⊢
        have hw17 : WD D A s.heap (MW cI cJ M mr mi (va_up mf 1 g_9) mg) H locs := hw16
        refine lv_iload_n (pc := 21) E.1 E.2.1 dX12_doesNeeds_21 rfl (lv_at hl12 3 rfl) ?_
        refine lv_icmp_ne (pc := 22) (tgt := 77) E.1 E.2.1 dX12_doesNeeds_22 (by decide) (fun c_18 => ?_) (fun c_18 => ?_)
        · skip
          have hc_18 := neE (a := r_15.toInt) (b := z_h.toInt) rfl rfl c_18
          obtain ⟨v_19, ev_19⟩ : ∃ z : Int32, x_7 + Int32.ofInt (1) = z := ⟨_, rfl⟩
          have hv_19 : v_19.toInt = x_7.toInt + (1) := by rw [← ev_19]; exact incE rfl (by decide) (by omega)
          refine lv_iinc (pc := 77) (v := v_19) (lv' := [(4, .int v_19), (3, .int x_8), (0, .ref M), (1, .int z_h), (2, .int z_w)]) E.1 E.2.1 dX12_doesNeeds_77 hl12 (k := 0) rfl ev_19 (by decide) rfl (fun ls hl20 => ?_)
          refine lv_goto (pc := 80) (tgt := 5) E.1 E.2.1 dX12_doesNeeds_80 (by decide) ?_
          exact ih_10 v_19 x_8 g_9 _ _ _ ⟨(by show 0 ≤ v_19.toInt; omega), (by show v_19.toInt ≤ (mi 44).toInt; omega), (by show (g_9 0).toInt = ((mf 1) 0).toInt; omega), (by show (g_9 2).toInt = ((mf 1) 2).toInt; omega), (by show (g_9 3).toInt = ((mf 1) 3).toInt; omega), (by show (g_9 5).toInt = ((mf 1) 5).toInt; omega)⟩ (by omega) hw17 (lv_sub hl20 [0, 1, 2, 3, 4] rfl)
        · skip
          have hc_18 := eqE (a := r_15.toInt) (b := z_h.toInt) rfl rfl c_18
          refine lv_aload_n (pc := 25) E.1 E.2.1 dX12_doesNeeds_25 rfl (lv_at hl12 2 rfl) ?_
          refine lv_iload (pc := 26) E.1 E.2.1 dX12_doesNeeds_26 (lv_at hl12 0 rfl) ?_
          refine cm_i (pc := 28) hw17 (rn_M (As := [.int x_7]) (rest := []) E hw17 (s_isOpen l D cI cJ _ M mr mi (va_up mf 1 g_9) mg x_7 (by show 0 ≤ x_7.toInt ∧ x_7.toInt ≤ 9; omega)) (gdV q_1875 q_1877 q_101 q_162 q_1878) hdV_X12_isOpen ⟨rfl, rfl⟩ ⟨(Nat.le_of_ble_eq_true rfl), (Nat.le_of_ble_eq_true rfl)⟩ ⟨(Nat.le_of_ble_eq_true rfl), (Nat.le_of_ble_eq_true rfl)⟩ 12 rfl rfl rfl rfl hl12.1 rfl (Nat.le_of_ble_eq_true rfl) dX12_doesNeeds_28) (fun r_22 u_21 H1 locs hp hw23 => ?_)
          generalize H1 = H at hw23 ⊢
          have hw24 : WD D A s.heap (MW cI cJ M mr mi (va_up mf 1 g_9) mg) H locs := hw23
          have hp_25 := hp
          have hp_25 : 0 ≤ r_22.toInt ∧ r_22.toInt ≤ 1 := hp_25
          refine lv_if_eq (pc := 31) (tgt := 77) E.1 E.2.1 dX12_doesNeeds_31 (by decide) (fun c_26 => ?_) (fun c_26 => ?_)
          · skip
            have hc_26 := eqE (a := r_22.toInt) (b := 0) rfl (by decide +kernel) c_26
            obtain ⟨v_27, ev_27⟩ : ∃ z : Int32, x_7 + Int32.ofInt (1) = z := ⟨_, rfl⟩
            have hv_27 : v_27.toInt = x_7.toInt + (1) := by rw [← ev_27]; exact incE rfl (by decide) (by omega)
            refine lv_iinc (pc := 77) (v := v_27) (lv' := [(4, .int v_27), (3, .int x_8), (0, .ref M), (1, .int z_h), (2, .int z_w)]) E.1 E.2.1 dX12_doesNeeds_77 hl12 (k := 0) rfl ev_27 (by decide) rfl (fun ls hl28 => ?_)
            refine lv_goto (pc := 80) (tgt := 5) E.1 E.2.1 dX12_doesNeeds_80 (by decide) ?_
            exact ih_10 v_27 x_8 g_9 _ _ _ ⟨(by show 0 ≤ v_27.toInt; omega), (by show v_27.toInt ≤ (mi 44).toInt; omega), (by show (g_9 0).toInt = ((mf 1) 0).toInt; omega), (by show (g_9 2).toInt = ((mf 1) 2).toInt; omega), (by show (g_9 3).toInt = ((mf 1) 3).toInt; omega), (by show (g_9 5).toInt = ((mf 1) 5).toInt; omega)⟩ (by omega) hw24 (lv_sub hl28 [0, 1, 2, 3, 4] rfl)
          · skip
            have hc_26 := neE (a := r_22.toInt) (b := 0) rfl (by decide +kernel) c_26
            refine lv_aload_n (pc := 34) E.1 E.2.1 dX12_doesNeeds_34 rfl (lv_at hl12 2 rfl) ?_
            refine lv_iload (pc := 35) E.1 E.2.1 dX12_doesNeeds_35 (lv_at hl12 0 rfl) ?_
            refine lv_iconst (pc := 37) (v := 0) E.1 E.2.1 dX12_doesNeeds_37 (by decide +kernel) ?_
            refine cm_i (pc := 38) hw24 (rn_M (As := [.int x_7, .int 0]) (rest := []) E hw24 (s_ofNeed l D cI cJ _ M mr mi (va_up mf 1 g_9) mg x_7 0 (by show 0 ≤ x_7.toInt ∧ x_7.toInt ≤ 9; omega) (by show 0 ≤ (0 : Int32).toInt ∧ (0 : Int32).toInt ≤ 4; have k_0 : (0 : Int32).toInt = 0 := (by decide +kernel); omega)) (gdV q_1871 q_1873 q_100 q_162 q_1874) hdV_X12_ofNeed ⟨rfl, rfl⟩ ⟨(Nat.le_of_ble_eq_true rfl), (Nat.le_of_ble_eq_true rfl)⟩ ⟨(Nat.le_of_ble_eq_true rfl), (Nat.le_of_ble_eq_true rfl)⟩ 12 rfl rfl rfl rfl hl12.1 rfl (Nat.le_of_ble_eq_true rfl) dX12_doesNeeds_38) (fun r_30 u_29 H1 locs hp hw31 => ?_)
            generalize H1 = H at hw31 ⊢
            have hw32 : WD D A s.heap (MW cI cJ M mr mi (va_up mf 1 g_9) mg) H locs := hw31
            refine lv_iconst (pc := 41) (v := 3) E.1 E.2.1 dX12_doesNeeds_41 (by decide +kernel) ?_
            refine lv_icmp_ne (pc := 42) (tgt := 52) E.1 E.2.1 dX12_doesNeeds_42 (by decide) (fun c_33 => ?_) (fun c_33 => ?_)
            · skip
              have hc_33 := neE (a := r_30.toInt) (b := 3) rfl (by decide +kernel) c_33
              refine lv_aload_n (pc := 52) E.1 E.2.1 dX12_doesNeeds_52 rfl (lv_at hl12 2 rfl) ?_
              refine x_get (pc := 53) (T := TX12) (N := 70) (ci := 12) (v := .ref (mr 1)) E hw32 inX12 0 1 q_1400 rfl rfl (by decide) rfl rfl dX12_doesNeeds_53 ?_
              refine lv_bipush (pc := 56) (v := 46) E.1 E.2.1 dX12_doesNeeds_56 (by decide +kernel) ?_
              refine lv_iload (pc := 58) E.1 E.2.1 dX12_doesNeeds_58 (lv_at hl12 0 rfl) ?_
              refine lv_iadd (pc := 60) E.1 E.2.1 dX12_doesNeeds_60 ?_
              refine lv_topi (fun v_34 ev_34 => ?_)
              have hv_34 : v_34.toInt = 46 + x_7.toInt := by rw [ev_34]; exact addE (by decide +kernel) rfl (by omega)
              refine lv_aload_n (pc := 61) E.1 E.2.1 dX12_doesNeeds_61 rfl (lv_at hl12 2 rfl) ?_
              refine x_get (pc := 62) (T := TX12) (N := 70) (ci := 12) (v := .ref (mr 1)) E hw32 inX12 0 1 q_1400 rfl rfl (by decide) rfl rfl dX12_doesNeeds_62 ?_
              refine lv_iconst (pc := 65) (v := 0) E.1 E.2.1 dX12_doesNeeds_65 (by decide +kernel) ?_
              refine x_iald (pc := 66) (f := g_9) E hw32 1 rfl (inbE (a := 0) (by decide +kernel) (by omega)) dX12_doesNeeds_66 ?_
              refine lv_topi (fun v_35 ev_35 => ?_)
              have hv_35 : v_35.toInt = (g_9 0).toInt := by rw [ev_35]; rfl
              refine lv_iconst (pc := 67) (v := 1) E.1 E.2.1 dX12_doesNeeds_67 (by decide +kernel) ?_
              refine lv_iadd (pc := 68) E.1 E.2.1 dX12_doesNeeds_68 ?_
              refine lv_topi (fun v_36 ev_36 => ?_)
              refine x_iastG (pc := 69) (f := g_9) (wf := fun g => (MW cI cJ M mr mi (va_up mf 1 g) mg)) E hw32 1 rfl (inbE (a := v_34.toInt) rfl (by omega)) (fun _ => rfl) dX12_doesNeeds_69 (fun g_37 H locs eg_37 hw38 => ?_)
              have ht_39 : (g_37 0).toInt = (g_9 0).toInt := by rw [eg_37, pk_un (by have q9 := idxI (x := v_34) (by omega); omega)]
              have ht_40 : (g_37 2).toInt = (g_9 2).toInt := by rw [eg_37, pk_un (by have q9 := idxI (x := v_34) (by omega); omega)]
              have ht_41 : (g_37 3).toInt = (g_9 3).toInt := by rw [eg_37, pk_un (by have q9 := idxI (x := v_34) (by omega); omega)]
              have ht_42 : (g_37 5).toInt = (g_9 5).toInt := by rw [eg_37, pk_un (by have q9 := idxI (x := v_34) (by omega); omega)]
              refine lv_iload_n (pc := 70) E.1 E.2.1 dX12_doesNeeds_70 rfl (lv_at hl12 1 rfl) ?_
              refine lv_iconst (pc := 71) (v := 1) E.1 E.2.1 dX12_doesNeeds_71 (by decide +kernel) ?_
              refine lv_iload (pc := 72) E.1 E.2.1 dX12_doesNeeds_72 (lv_at hl12 0 rfl) ?_
              refine lv_ishl (pc := 74) E.1 E.2.1 dX12_doesNeeds_74 ?_
              refine lv_topi (fun v_43 ev_43 => ?_)
              have hb1v_43 : 1 ≤ v_43.toInt ∧ v_43.toInt ≤ 512 := by rw [ev_43]; exact shl9 (by omega)
              refine lv_ior (pc := 75) E.1 E.2.1 dX12_doesNeeds_75 ?_
              refine lv_topi (fun v_44 ev_44 => ?_)
              refine lv_istore_n (pc := 76) (lv' := [(3, .int v_44), (4, .int x_7), (0, .ref M), (1, .int z_h), (2, .int z_w)]) E.1 E.2.1 dX12_doesNeeds_76 rfl hl12 (by decide) rfl (fun ls hl45 => ?_)
              obtain ⟨v_46, ev_46⟩ : ∃ z : Int32, x_7 + Int32.ofInt (1) = z := ⟨_, rfl⟩
              have hv_46 : v_46.toInt = x_7.toInt + (1) := by rw [← ev_46]; exact incE rfl (by decide) (by omega)
              refine lv_iinc (pc := 77) (v := v_46) (lv' := [(4, .int v_46), (3, .int v_44), (0, .ref M), (1, .int z_h), (2, .int z_w)]) E.1 E.2.1 dX12_doesNeeds_77 hl45 (k := 1) rfl ev_46 (by decide) rfl (fun ls hl47 => ?_)
              refine lv_goto (pc := 80) (tgt := 5) E.1 E.2.1 dX12_doesNeeds_80 (by decide) ?_
              exact ih_10 v_46 v_44 g_37 _ _ _ ⟨(by show 0 ≤ v_46.toInt; omega), (by show v_46.toInt ≤ (mi 44).toInt; omega), (by show (g_37 0).toInt = ((mf 1) 0).toInt; omega), (by show (g_37 2).toInt = ((mf 1) 2).toInt; omega), (by show (g_37 3).toInt = ((mf 1) 3).toInt; omega), (by show (g_37 5).toInt = ((mf 1) 5).toInt; omega)⟩ (by omega) hw38 (lv_sub hl47 [0, 1, 2, 3, 4] rfl)
            · skip
              have hc_33 := eqE (a := r_30.toInt) (b := 3) rfl (by decide +kernel) c_33
              refine lv_iload_n (pc := 45) E.1 E.2.1 dX12_doesNeeds_45 rfl (lv_at hl12 4 rfl) ?_
              refine lv_if_ne (pc := 46) (tgt := 52) E.1 E.2.1 dX12_doesNeeds_46 (by decide) (fun c_48 => ?_) (fun c_48 => ?_)
              · skip
                have hc_48 := neE (a := z_w.toInt) (b := 0) rfl (by decide +kernel) c_48
                refine lv_aload_n (pc := 52) E.1 E.2.1 dX12_doesNeeds_52 rfl (lv_at hl12 2 rfl) ?_
                refine x_get (pc := 53) (T := TX12) (N := 70) (ci := 12) (v := .ref (mr 1)) E hw32 inX12 0 1 q_1400 rfl rfl (by decide) rfl rfl dX12_doesNeeds_53 ?_
                refine lv_bipush (pc := 56) (v := 46) E.1 E.2.1 dX12_doesNeeds_56 (by decide +kernel) ?_
                refine lv_iload (pc := 58) E.1 E.2.1 dX12_doesNeeds_58 (lv_at hl12 0 rfl) ?_
                refine lv_iadd (pc := 60) E.1 E.2.1 dX12_doesNeeds_60 ?_
                refine lv_topi (fun v_49 ev_49 => ?_)
                have hv_49 : v_49.toInt = 46 + x_7.toInt := by rw [ev_49]; exact addE (by decide +kernel) rfl (by omega)
                refine lv_aload_n (pc := 61) E.1 E.2.1 dX12_doesNeeds_61 rfl (lv_at hl12 2 rfl) ?_
                refine x_get (pc := 62) (T := TX12) (N := 70) (ci := 12) (v := .ref (mr 1)) E hw32 inX12 0 1 q_1400 rfl rfl (by decide) rfl rfl dX12_doesNeeds_62 ?_
                refine lv_iconst (pc := 65) (v := 0) E.1 E.2.1 dX12_doesNeeds_65 (by decide +kernel) ?_
                refine x_iald (pc := 66) (f := g_9) E hw32 1 rfl (inbE (a := 0) (by decide +kernel) (by omega)) dX12_doesNeeds_66 ?_
                refine lv_topi (fun v_50 ev_50 => ?_)
                have hv_50 : v_50.toInt = (g_9 0).toInt := by rw [ev_50]; rfl
                refine lv_iconst (pc := 67) (v := 1) E.1 E.2.1 dX12_doesNeeds_67 (by decide +kernel) ?_
                refine lv_iadd (pc := 68) E.1 E.2.1 dX12_doesNeeds_68 ?_
                refine lv_topi (fun v_51 ev_51 => ?_)
                refine x_iastG (pc := 69) (f := g_9) (wf := fun g => (MW cI cJ M mr mi (va_up mf 1 g) mg)) E hw32 1 rfl (inbE (a := v_49.toInt) rfl (by omega)) (fun _ => rfl) dX12_doesNeeds_69 (fun g_52 H locs eg_52 hw53 => ?_)
                have ht_54 : (g_52 0).toInt = (g_9 0).toInt := by rw [eg_52, pk_un (by have q9 := idxI (x := v_49) (by omega); omega)]
                have ht_55 : (g_52 2).toInt = (g_9 2).toInt := by rw [eg_52, pk_un (by have q9 := idxI (x := v_49) (by omega); omega)]
                have ht_56 : (g_52 3).toInt = (g_9 3).toInt := by rw [eg_52, pk_un (by have q9 := idxI (x := v_49) (by omega); omega)]
                have ht_57 : (g_52 5).toInt = (g_9 5).toInt := by rw [eg_52, pk_un (by have q9 := idxI (x := v_49) (by omega); omega)]
                refine lv_iload_n (pc := 70) E.1 E.2.1 dX12_doesNeeds_70 rfl (lv_at hl12 1 rfl) ?_
                refine lv_iconst (pc := 71) (v := 1) E.1 E.2.1 dX12_doesNeeds_71 (by decide +kernel) ?_
                refine lv_iload (pc := 72) E.1 E.2.1 dX12_doesNeeds_72 (lv_at hl12 0 rfl) ?_
                refine lv_ishl (pc := 74) E.1 E.2.1 dX12_doesNeeds_74 ?_
                refine lv_topi (fun v_58 ev_58 => ?_)
                have hb1v_58 : 1 ≤ v_58.toInt ∧ v_58.toInt ≤ 512 := by rw [ev_58]; exact shl9 (by omega)
                refine lv_ior (pc := 75) E.1 E.2.1 dX12_doesNeeds_75 ?_
                refine lv_topi (fun v_59 ev_59 => ?_)
                refine lv_istore_n (pc := 76) (lv' := [(3, .int v_59), (4, .int x_7), (0, .ref M), (1, .int z_h), (2, .int z_w)]) E.1 E.2.1 dX12_doesNeeds_76 rfl hl12 (by decide) rfl (fun ls hl60 => ?_)
                obtain ⟨v_61, ev_61⟩ : ∃ z : Int32, x_7 + Int32.ofInt (1) = z := ⟨_, rfl⟩
                have hv_61 : v_61.toInt = x_7.toInt + (1) := by rw [← ev_61]; exact incE rfl (by decide) (by omega)
                refine lv_iinc (pc := 77) (v := v_61) (lv' := [(4, .int v_61), (3, .int v_59), (0, .ref M), (1, .int z_h), (2, .int z_w)]) E.1 E.2.1 dX12_doesNeeds_77 hl60 (k := 1) rfl ev_61 (by decide) rfl (fun ls hl62 => ?_)
                refine lv_goto (pc := 80) (tgt := 5) E.1 E.2.1 dX12_doesNeeds_80 (by decide) ?_
                exact ih_10 v_61 v_59 g_52 _ _ _ ⟨(by show 0 ≤ v_61.toInt; omega), (by show v_61.toInt ≤ (mi 44).toInt; omega), (by show (g_52 0).toInt = ((mf 1) 0).toInt; omega), (by show (g_52 2).toInt = ((mf 1) 2).toInt; omega), (by show (g_52 3).toInt = ((mf 1) 3).toInt; omega), (by show (g_52 5).toInt = ((mf 1) 5).toInt; omega)⟩ (by omega) hw53 (lv_sub hl62 [0, 1, 2, 3, 4] rfl)
              · skip
                have hc_48 := eqE (a := z_w.toInt) (b := 0) rfl (by decide +kernel) c_48
                refine lv_goto (pc := 49) (tgt := 77) E.1 E.2.1 dX12_doesNeeds_49 (by decide) ?_
                obtain ⟨v_63, ev_63⟩ : ∃ z : Int32, x_7 + Int32.ofInt (1) = z := ⟨_, rfl⟩
                have hv_63 : v_63.toInt = x_7.toInt + (1) := by rw [← ev_63]; exact incE rfl (by decide) (by omega)
                refine lv_iinc (pc := 77) (v := v_63) (lv' := [(4, .int v_63), (3, .int x_8), (0, .ref M), (1, .int z_h), (2, .int z_w)]) E.1 E.2.1 dX12_doesNeeds_77 hl12 (k := 0) rfl ev_63 (by decide) rfl (fun ls hl64 => ?_)
                refine lv_goto (pc := 80) (tgt := 5) E.1 E.2.1 dX12_doesNeeds_80 (by decide) ?_
                exact ih_10 v_63 x_8 g_9 _ _ _ ⟨(by show 0 ≤ v_63.toInt; omega), (by show v_63.toInt ≤ (mi 44).toInt; omega), (by show (g_9 0).toInt = ((mf 1) 0).toInt; omega), (by show (g_9 2).toInt = ((mf 1) 2).toInt; omega), (by show (g_9 3).toInt = ((mf 1) 3).toInt; omega), (by show (g_9 5).toInt = ((mf 1) 5).toInt; omega)⟩ (by omega) hw32 (lv_sub hl64 [0, 1, 2, 3, 4] rfl)
  exact loop_6 (Int.toNat ((mi 44).toInt - 0) + 1) 0 0 (mf 1) _ _ _ ⟨(by show 0 ≤ (0 : Int32).toInt; have k_0 : (0 : Int32).toInt = 0 := (by decide +kernel); omega), (by show (0 : Int32).toInt ≤ (mi 44).toInt; have k_0 : (0 : Int32).toInt = 0 := (by decide +kernel); omega), (by show ((mf 1) 0).toInt = ((mf 1) 0).toInt; omega), (by show ((mf 1) 2).toInt = ((mf 1) 2).toInt; omega), (by show ((mf 1) 3).toInt = ((mf 1) 3).toInt; omega), (by show ((mf 1) 5).toInt = ((mf 1) 5).toInt; omega)⟩ (by have k_0 : (0 : Int32).toInt = 0 := (by decide +kernel); have k_1 : (0 : Int32).toInt = 0 := (by decide +kernel); omega) hw1 (lv_sub hl5 [0, 1, 2, 3, 4] rfl)

