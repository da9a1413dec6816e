set_option maxHeartbeats 4000000 in
set_option maxRecDepth 100000 in
theorem s_thinksU (l : Launch) (D : va_G) (cI cJ : ClassId) (sz M : Nat) (mr : Nat → Nat) (mi : Nat → Int32) (mf : Nat → Nat → Int32) (mg : Nat → Nat → Int64)   : Met l yX12_thinks (Cond.code yX12_thinks cX12_thinks 2 none :: GW) ({ frames := 1, cells := 0, slots := 0, locals := 40 } : Room) (va_Pc [.ref M] (PW D cI cJ sz (MW cI cJ M mr mi mf mg) xT)) (va_Qv (fun (u : (Nat → Int32) × Int32) => (u.2.toInt = 1) ∧ ((u.1 2).toInt = ((mf 1) 2).toInt) ∧ ((u.1 3).toInt = ((mf 1) 3).toInt) ∧ ((u.1 5).toInt = ((mf 1) 5).toInt) ∧ ((u.1 0).toInt = ((mf 1) 0).toInt) ∧ ((u.1 1).toInt = ((mf 1) 1).toInt)) (fun u => QW D cI cJ (va_A (MW cI cJ M mr mi mf mg) sz) ((fun (u : (Nat → Int32) × Int32) => (MW cI cJ M mr (upd mi 5 u.2) (va_up mf 4 u.1) mg)) u)) (va_A (MW cI cJ M mr mi mf mg) sz)) 0 0 (va_A (MW cI cJ M mr mi mf mg) sz) := by
  refine mk_met (y := yX12_thinks) (bytes := cX12_thinks) (maxL := 2) (avs := [.ref M]) (WS := (MW cI cJ M mr mi mf mg)) (Qf := fun A => va_Qv (fun (u : (Nat → Int32) × Int32) => (u.2.toInt = 1) ∧ ((u.1 2).toInt = ((mf 1) 2).toInt) ∧ ((u.1 3).toInt = ((mf 1) 3).toInt) ∧ ((u.1 5).toInt = ((mf 1) 5).toInt) ∧ ((u.1 0).toInt = ((mf 1) 0).toInt) ∧ ((u.1 1).toInt = ((mf 1) 1).toInt)) (fun u => QW D cI cJ A ((fun (u : (Nat → Int32) × Int32) => (MW cI cJ M mr (upd mi 5 u.2) (va_up mf 4 u.1) mg)) u)) A) (by decide) (Nat.le_of_ble_eq_true rfl) ?_
  intro p e s m below meth c A ls E hr hlk hnm hX hw1 hl2
  have hl3 : lv_has ls 2 [(0, .ref M)] := hl2
  refine lv_iconst (pc := 0) (v := 0) E.1 E.2.1 dX12_thinks_0 (by decide +kernel) ?_
  refine lv_istore_n (pc := 1) (lv' := [(1, .int 0), (0, .ref M)]) E.1 E.2.1 dX12_thinks_1 rfl hl3 (by decide) rfl (fun ls hl4 => ?_)
  have loop_5 : ∀ (k : Nat) (x_6 : Int32) (g_7 : Nat → Int32) (H : Heap) (locs : List Loc) (ls : Array Slot), (0 ≤ x_6.toInt ∧ x_6.toInt ≤ 66) ∧ (CP g_7 (mf 1) 0 0 x_6.toInt) → 66 - x_6.toInt < (k : Int) → WD D A s.heap (MW cI cJ M mr mi (va_up mf 4 g_7) mg) H locs → lv_has ls 2 [(1, .int x_6), (0, .ref M)] → W p l e ({ frames := 1, cells := 0, slots := 0, locals := 40 } : Room) s m ([.ref M] : List Value).toArray below meth c H locs 0 0 (MQ below (va_Qv (fun (u : (Nat → Int32) × Int32) => (u.2.toInt = 1) ∧ ((u.1 2).toInt = ((mf 1) 2).toInt) ∧ ((u.1 3).toInt = ((mf 1) 3).toInt) ∧ ((u.1 5).toInt = ((mf 1) 5).toInt) ∧ ((u.1 0).toInt = ((mf 1) 0).toInt) ∧ ((u.1 1).toInt = ((mf 1) 1).toInt)) (fun u => QW D cI cJ A ((fun (u : (Nat → Int32) × Int32) => (MW cI cJ M mr (upd mi 5 u.2) (va_up mf 4 u.1) mg)) u)) A) ([.ref M] : List Value).toArray s 0 0 A) (F0 m 2 ls []) := by
    intro k
    induction k with
    | zero =>
      intro x_6 g_7 _ _ _ hinv hm
      obtain ⟨hi_7_0, hi_7_1⟩ := hinv
      exact absurd hm (by omega)
    | succ k ih_8 =>
      intro x_6 g_7 H locs ls hinv hm hw9 hl10
      obtain ⟨hi_7_0, hi_7_1⟩ := hinv
      refine lv_iload_n (pc := 2) E.1 E.2.1 dX12_thinks_2 rfl (lv_at hl10 0 rfl) ?_
      refine lv_bipush (pc := 3) (v := 66) E.1 E.2.1 dX12_thinks_3 (by decide +kernel) ?_
      refine lv_icmp_ge (pc := 5) (tgt := 26) E.1 E.2.1 dX12_thinks_5 (by decide) (fun c_11 => ?_) (fun c_11 => ?_)
      · skip
        have hc_11 := leE (a := 66) (b := x_6.toInt) (by decide +kernel) rfl c_11
        have ht_12 : (g_7 0).toInt = ((mf 1) 0).toInt := congrArg Int32.toInt ((Nat.zero_add 0) ▸ (Nat.zero_add 0) ▸ hi_7_1 0 (by omega))
        have ht_13 : (g_7 1).toInt = ((mf 1) 1).toInt := congrArg Int32.toInt ((Nat.zero_add 1) ▸ (Nat.zero_add 1) ▸ hi_7_1 1 (by omega))
        have ht_14 : (g_7 2).toInt = ((mf 1) 2).toInt := congrArg Int32.toInt ((Nat.zero_add 2) ▸ (Nat.zero_add 2) ▸ hi_7_1 2 (by omega))
        have ht_15 : (g_7 3).toInt = ((mf 1) 3).toInt := congrArg Int32.toInt ((Nat.zero_add 3) ▸ (Nat.zero_add 3) ▸ hi_7_1 3 (by omega))
        have ht_16 : (g_7 5).toInt = ((mf 1) 5).toInt := congrArg Int32.toInt ((Nat.zero_add 5) ▸ (Nat.zero_add 5) ▸ hi_7_1 5 (by omega))
        refine lv_aload_n (pc := 26) E.1 E.2.1 dX12_thinks_26 rfl (lv_at hl10 1 rfl) ?_
        refine lv_iconst (pc := 27) (v := 1) E.1 E.2.1 dX12_thinks_27 (by decide +kernel) ?_
        refine x_put (pc := 28) (T := TX12) (N := 70) (ci := 12) (ws' := (MW cI cJ M mr (upd mi 5 1) (va_up mf 4 g_7) mg)) E hw9 inX12 tyX12_ok nmX12 0 5 q_1404 rfl rfl (by decide) rfl rfl rfl rfl (Nat.le_of_ble_eq_true rfl) rfl dX12_thinks_28 (fun H locs hw17 => ?_)
        exact em_v (w1 := (fun (u : (Nat → Int32) × Int32) => (MW cI cJ M mr (upd mi 5 u.2) (va_up mf 4 u.1) mg))) E hr hlk (g_7, 1) hw17 ⟨(by show (1 : Int32).toInt = 1; have k_0 : (1 : Int32).toInt = 1 := (by decide +kernel); omega), (by show (g_7 2).toInt = ((mf 1) 2).toInt; have k_0 : (1 : Int32).toInt = 1 := (by decide +kernel); omega), (by show (g_7 3).toInt = ((mf 1) 3).toInt; have k_0 : (1 : Int32).toInt = 1 := (by decide +kernel); omega), (by show (g_7 5).toInt = ((mf 1) 5).toInt; have k_0 : (1 : Int32).toInt = 1 := (by decide +kernel); omega), (by show (g_7 0).toInt = ((mf 1) 0).toInt; have k_0 : (1 : Int32).toInt = 1 := (by decide +kernel); omega), (by show (g_7 1).toInt = ((mf 1) 1).toInt; have k_0 : (1 : Int32).toInt = 1 := (by decide +kernel); omega)⟩ (Nat.le_of_ble_eq_true rfl) (Nat.le_of_ble_eq_true rfl) dX12_thinks_31
      · skip
        have hc_11 := nleE (a := 66) (b := x_6.toInt) (by decide +kernel) rfl c_11
        refine lv_aload_n (pc := 8) E.1 E.2.1 dX12_thinks_8 rfl (lv_at hl10 1 rfl) ?_
        refine x_get (pc := 9) (T := TX12) (N := 70) (ci := 12) (v := .ref (mr 4)) E hw9 inX12 0 4 q_1403 rfl rfl (by decide) rfl rfl dX12_thinks_9 ?_
        refine lv_iload_n (pc := 12) E.1 E.2.1 dX12_thinks_12 rfl (lv_at hl10 0 rfl) ?_
        refine lv_aload_n (pc := 13) E.1 E.2.1 dX12_thinks_13 rfl (lv_at hl10 1 rfl) ?_
        refine x_get (pc := 14) (T := TX12) (N := 70) (ci := 12) (v := .ref (mr 1)) E hw9 inX12 0 1 q_1400 rfl rfl (by decide) rfl rfl dX12_thinks_14 ?_
        refine lv_iload_n (pc := 17) E.1 E.2.1 dX12_thinks_17 rfl (lv_at hl10 0 rfl) ?_
        refine x_iald (pc := 18) (f := (mf 1)) E hw9 1 rfl (inbE (a := x_6.toInt) rfl (by omega)) dX12_thinks_18 ?_
        refine lv_topi (fun v_18 ev_18 => ?_)
        refine x_iastG (pc := 19) (f := g_7) (wf := fun g => (MW cI cJ M mr mi (va_up mf 4 g) mg)) E hw9 3 rfl (inbE (a := x_6.toInt) rfl (by omega)) (fun _ => rfl) dX12_thinks_19 (fun g_19 H locs eg_19 hw20 => ?_)
        obtain ⟨v_26, ev_26⟩ : ∃ z : Int32, x_6 + Int32.ofInt (1) = z := ⟨_, rfl⟩
        have hv_26 : v_26.toInt = x_6.toInt + (1) := by rw [← ev_26]; exact incE rfl (by decide) (by omega)
        refine lv_iinc (pc := 20) (v := v_26) (lv' := [(1, .int v_26), (0, .ref M)]) E.1 E.2.1 dX12_thinks_20 hl10 (k := 0) rfl ev_26 (by decide) rfl (fun ls hl27 => ?_)
        refine lv_goto (pc := 23) (tgt := 2) E.1 E.2.1 dX12_thinks_23 (by decide) ?_
        exact ih_8 v_26 g_19 _ _ _ ⟨(by show 0 ≤ v_26.toInt ∧ v_26.toInt ≤ 66; omega), (CP_step (i := x_6) (j := v_26) hi_7_1 eg_19 ev_18 (by omega) (by omega) (by omega) (by omega))⟩ (by omega) hw20 (lv_sub hl27 [0, 1] rfl)
  exact loop_5 (Int.toNat (66 - 0) + 1) 0 (mf 4) _ _ _ ⟨(by show 0 ≤ (0 : Int32).toInt ∧ (0 : Int32).toInt ≤ 66; have k_0 : (0 : Int32).toInt = 0 := (by decide +kernel); omega), (CP_nil (by decide +kernel))⟩ (by have k_0 : (0 : Int32).toInt = 0 := (by decide +kernel); omega) hw1 (lv_sub hl4 [0, 1] rfl)

set_option maxHeartbeats 4000000 in
set_option maxRecDepth 100000 in
theorem s_endsThoughtU (l : Launch) (D : va_G) (cI cJ : ClassId) (sz M : Nat) (mr : Nat → Nat) (mi : Nat → Int32) (mf : Nat → Nat → Int32) (mg : Nat → Nat → Int64)   : Met l yX12_endsThought (Cond.code yX12_endsThought cX12_endsThought 2 none :: GW) ({ frames := 1, cells := 0, slots := 0, locals := 40 } : Room) (va_Pc [.ref M] (PW D cI cJ sz (MW cI cJ M mr mi mf mg) xT)) (va_Qv (fun (u : (Nat → Int32) × Int32) => (u.2.toInt = 0) ∧ ((u.1 2).toInt = ((mf 4) 2).toInt) ∧ ((u.1 3).toInt = ((mf 4) 3).toInt) ∧ ((u.1 5).toInt = ((mf 4) 5).toInt) ∧ ((u.1 0).toInt = ((mf 4) 0).toInt) ∧ ((u.1 1).toInt = ((mf 4) 1).toInt)) (fun u => QW D cI cJ (va_A (MW cI cJ M mr mi mf mg) sz) ((fun (u : (Nat → Int32) × Int32) => (MW cI cJ M mr (upd mi 5 u.2) (va_up mf 1 u.1) mg)) u)) (va_A (MW cI cJ M mr mi mf mg) sz)) 0 0 (va_A (MW cI cJ M mr mi mf mg) sz) := by
  refine mk_met (y := yX12_endsThought) (bytes := cX12_endsThought) (maxL := 2) (avs := [.ref M]) (WS := (MW cI cJ M mr mi mf mg)) (Qf := fun A => va_Qv (fun (u : (Nat → Int32) × Int32) => (u.2.toInt = 0) ∧ ((u.1 2).toInt = ((mf 4) 2).toInt) ∧ ((u.1 3).toInt = ((mf 4) 3).toInt) ∧ ((u.1 5).toInt = ((mf 4) 5).toInt) ∧ ((u.1 0).toInt = ((mf 4) 0).toInt) ∧ ((u.1 1).toInt = ((mf 4) 1).toInt)) (fun u => QW D cI cJ A ((fun (u : (Nat → Int32) × Int32) => (MW cI cJ M mr (upd mi 5 u.2) (va_up mf 1 u.1) mg)) u)) A) (by decide) (Nat.le_of_ble_eq_true rfl) ?_
  intro p e s m below meth c A ls E hr hlk hnm hX hw1 hl2
  have hl3 : lv_has ls 2 [(0, .ref M)] := hl2
  refine lv_iconst (pc := 0) (v := 0) E.1 E.2.1 dX12_endsThought_0 (by decide +kernel) ?_
  refine lv_istore_n (pc := 1) (lv' := [(1, .int 0), (0, .ref M)]) E.1 E.2.1 dX12_endsThought_1 rfl hl3 (by decide) rfl (fun ls hl4 => ?_)
  have loop_5 : ∀ (k : Nat) (x_6 : Int32) (g_7 : Nat → Int32) (H : Heap) (locs : List Loc) (ls : Array Slot), (0 ≤ x_6.toInt ∧ x_6.toInt ≤ 66) ∧ (CP g_7 (mf 4) 0 0 x_6.toInt) → 66 - x_6.toInt < (k : Int) → WD D A s.heap (MW cI cJ M mr mi (va_up mf 1 g_7) mg) H locs → lv_has ls 2 [(1, .int x_6), (0, .ref M)] → W p l e ({ frames := 1, cells := 0, slots := 0, locals := 40 } : Room) s m ([.ref M] : List Value).toArray below meth c H locs 0 0 (MQ below (va_Qv (fun (u : (Nat → Int32) × Int32) => (u.2.toInt = 0) ∧ ((u.1 2).toInt = ((mf 4) 2).toInt) ∧ ((u.1 3).toInt = ((mf 4) 3).toInt) ∧ ((u.1 5).toInt = ((mf 4) 5).toInt) ∧ ((u.1 0).toInt = ((mf 4) 0).toInt) ∧ ((u.1 1).toInt = ((mf 4) 1).toInt)) (fun u => QW D cI cJ A ((fun (u : (Nat → Int32) × Int32) => (MW cI cJ M mr (upd mi 5 u.2) (va_up mf 1 u.1) mg)) u)) A) ([.ref M] : List Value).toArray s 0 0 A) (F0 m 2 ls []) := by
    intro k
    induction k with
    | zero =>
      intro x_6 g_7 _ _ _ hinv hm
      obtain ⟨hi_7_0, hi_7_1⟩ := hinv
      exact absurd hm (by omega)
    | succ k ih_8 =>
      intro x_6 g_7 H locs ls hinv hm hw9 hl10
      obtain ⟨hi_7_0, hi_7_1⟩ := hinv
      refine lv_iload_n (pc := 2) E.1 E.2.1 dX12_endsThought_2 rfl (lv_at hl10 0 rfl) ?_
      refine lv_bipush (pc := 3) (v := 66) E.1 E.2.1 dX12_endsThought_3 (by decide +kernel) ?_
      refine lv_icmp_ge (pc := 5) (tgt := 26) E.1 E.2.1 dX12_endsThought_5 (by decide) (fun c_11 => ?_) (fun c_11 => ?_)
      · skip
        have hc_11 := leE (a := 66) (b := x_6.toInt) (by decide +kernel) rfl c_11
        have ht_12 : (g_7 0).toInt = ((mf 4) 0).toInt := congrArg Int32.toInt ((Nat.zero_add 0) ▸ (Nat.zero_add 0) ▸ hi_7_1 0 (by omega))
        have ht_13 : (g_7 1).toInt = ((mf 4) 1).toInt := congrArg Int32.toInt ((Nat.zero_add 1) ▸ (Nat.zero_add 1) ▸ hi_7_1 1 (by omega))
        have ht_14 : (g_7 2).toInt = ((mf 4) 2).toInt := congrArg Int32.toInt ((Nat.zero_add 2) ▸ (Nat.zero_add 2) ▸ hi_7_1 2 (by omega))
        have ht_15 : (g_7 3).toInt = ((mf 4) 3).toInt := congrArg Int32.toInt ((Nat.zero_add 3) ▸ (Nat.zero_add 3) ▸ hi_7_1 3 (by omega))
        have ht_16 : (g_7 5).toInt = ((mf 4) 5).toInt := congrArg Int32.toInt ((Nat.zero_add 5) ▸ (Nat.zero_add 5) ▸ hi_7_1 5 (by omega))
        refine lv_aload_n (pc := 26) E.1 E.2.1 dX12_endsThought_26 rfl (lv_at hl10 1 rfl) ?_
        refine lv_iconst (pc := 27) (v := 0) E.1 E.2.1 dX12_endsThought_27 (by decide +kernel) ?_
        refine x_put (pc := 28) (T := TX12) (N := 70) (ci := 12) (ws' := (MW cI cJ M mr (upd mi 5 0) (va_up mf 1 g_7) mg)) E hw9 inX12 tyX12_ok nmX12 0 5 q_1404 rfl rfl (by decide) rfl rfl rfl rfl (Nat.le_of_ble_eq_true rfl) rfl dX12_endsThought_28 (fun H locs hw17 => ?_)
        exact em_v (w1 := (fun (u : (Nat → Int32) × Int32) => (MW cI cJ M mr (upd mi 5 u.2) (va_up mf 1 u.1) mg))) E hr hlk (g_7, 0) hw17 ⟨(by show (0 : Int32).toInt = 0; have k_0 : (0 : Int32).toInt = 0 := (by decide +kernel); omega), (by show (g_7 2).toInt = ((mf 4) 2).toInt; have k_0 : (0 : Int32).toInt = 0 := (by decide +kernel); omega), (by show (g_7 3).toInt = ((mf 4) 3).toInt; have k_0 : (0 : Int32).toInt = 0 := (by decide +kernel); omega), (by show (g_7 5).toInt = ((mf 4) 5).toInt; have k_0 : (0 : Int32).toInt = 0 := (by decide +kernel); omega), (by show (g_7 0).toInt = ((mf 4) 0).toInt; have k_0 : (0 : Int32).toInt = 0 := (by decide +kernel); omega), (by show (g_7 1).toInt = ((mf 4) 1).toInt; have k_0 : (0 : Int32).toInt = 0 := (by decide +kernel); omega)⟩ (Nat.le_of_ble_eq_true rfl) (Nat.le_of_ble_eq_true rfl) dX12_endsThought_31
      · skip
        have hc_11 := nleE (a := 66) (b := x_6.toInt) (by decide +kernel) rfl c_11
        refine lv_aload_n (pc := 8) E.1 E.2.1 dX12_endsThought_8 rfl (lv_at hl10 1 rfl) ?_
        refine x_get (pc := 9) (T := TX12) (N := 70) (ci := 12) (v := .ref (mr 1)) E hw9 inX12 0 1 q_1400 rfl rfl (by decide) rfl rfl dX12_endsThought_9 ?_
        refine lv_iload_n (pc := 12) E.1 E.2.1 dX12_endsThought_12 rfl (lv_at hl10 0 rfl) ?_
        refine lv_aload_n (pc := 13) E.1 E.2.1 dX12_endsThought_13 rfl (lv_at hl10 1 rfl) ?_
        refine x_get (pc := 14) (T := TX12) (N := 70) (ci := 12) (v := .ref (mr 4)) E hw9 inX12 0 4 q_1403 rfl rfl (by decide) rfl rfl dX12_endsThought_14 ?_
        refine lv_iload_n (pc := 17) E.1 E.2.1 dX12_endsThought_17 rfl (lv_at hl10 0 rfl) ?_
        refine x_iald (pc := 18) (f := (mf 4)) E hw9 3 rfl (inbE (a := x_6.toInt) rfl (by omega)) dX12_endsThought_18 ?_
        refine lv_topi (fun v_18 ev_18 => ?_)
        refine x_iastG (pc := 19) (f := g_7) (wf := fun g => (MW cI cJ M mr mi (va_up mf 1 g) mg)) E hw9 1 rfl (inbE (a := x_6.toInt) rfl (by omega)) (fun _ => rfl) dX12_endsThought_19 (fun g_19 H locs eg_19 hw20 => ?_)
        obtain ⟨v_26, ev_26⟩ : ∃ z : Int32, x_6 + Int32.ofInt (1) = z := ⟨_, rfl⟩
        have hv_26 : v_26.toInt = x_6.toInt + (1) := by rw [← ev_26]; exact incE rfl (by decide) (by omega)
        refine lv_iinc (pc := 20) (v := v_26) (lv' := [(1, .int v_26), (0, .ref M)]) E.1 E.2.1 dX12_endsThought_20 hl10 (k := 0) rfl ev_26 (by decide) rfl (fun ls hl27 => ?_)
        refine lv_goto (pc := 23) (tgt := 2) E.1 E.2.1 dX12_endsThought_23 (by decide) ?_
        exact ih_8 v_26 g_19 _ _ _ ⟨(by show 0 ≤ v_26.toInt ∧ v_26.toInt ≤ 66; omega), (CP_step (i := x_6) (j := v_26) hi_7_1 eg_19 ev_18 (by omega) (by omega) (by omega) (by omega))⟩ (by omega) hw20 (lv_sub hl27 [0, 1] rfl)
  exact loop_5 (Int.toNat (66 - 0) + 1) 0 (mf 1) _ _ _ ⟨(by show 0 ≤ (0 : Int32).toInt ∧ (0 : Int32).toInt ≤ 66; have k_0 : (0 : Int32).toInt = 0 := (by decide +kernel); omega), (CP_nil (by decide +kernel))⟩ (by have k_0 : (0 : Int32).toInt = 0 := (by decide +kernel); omega) hw1 (lv_sub hl4 [0, 1] rfl)

set_option maxHeartbeats 4000000 in
set_option maxRecDepth 100000 in
theorem s_drawU (l : Launch) (D : va_G) (cI cJ : ClassId) (sz M : Nat) (mr : Nat → Nat) (mi : Nat → Int32) (mf : Nat → Nat → Int32) (mg : Nat → Nat → Int64) (z_m : Int32) (h0 : 1 ≤ z_m.toInt) : Met l yX12_draw (Cond.code yX12_draw cX12_draw 2 (some .int) :: GW) ({ frames := 1, cells := 0, slots := 0, locals := 40 } : Room) (va_Pc [.ref M, .int z_m] (PW D cI cJ sz (MW cI cJ M mr mi mf mg) xT)) (va_Qi (fun (r : Int32) (u : (Nat → Int32)) => ((u 2).toInt = ((mf 1) 2).toInt) ∧ ((u 3).toInt = ((mf 1) 3).toInt) ∧ ((u 5).toInt = ((mf 1) 5).toInt) ∧ ((u 0).toInt = ((mf 1) 0).toInt) ∧ (u 1 = LCG ((mf 1) 1))) (fun u => QW D cI cJ (va_A (MW cI cJ M mr mi mf mg) sz) ((fun (u : (Nat → Int32)) => (MW cI cJ M mr mi (va_up mf 1 u) mg)) u)) (va_A (MW cI cJ M mr mi mf mg) sz)) 0 0 (va_A (MW cI cJ M mr mi mf mg) sz) := by
  refine mk_met (y := yX12_draw) (bytes := cX12_draw) (maxL := 2) (avs := [.ref M, .int z_m]) (WS := (MW cI cJ M mr mi mf mg)) (Qf := fun A => va_Qi (fun (r : Int32) (u : (Nat → Int32)) => ((u 2).toInt = ((mf 1) 2).toInt) ∧ ((u 3).toInt = ((mf 1) 3).toInt) ∧ ((u 5).toInt = ((mf 1) 5).toInt) ∧ ((u 0).toInt = ((mf 1) 0).toInt) ∧ (u 1 = LCG ((mf 1) 1))) (fun u => QW D cI cJ A ((fun (u : (Nat → Int32)) => (MW cI cJ M mr mi (va_up mf 1 u) mg)) u)) A) (by decide) (Nat.le_of_ble_eq_true rfl) ?_
  intro p e s m below meth c A ls E hr hlk hnm hX hw1 hl2
  have hl3 : lv_has ls 2 [(0, .ref M), (1, .int z_m)] := hl2
  refine lv_aload_n (pc := 0) E.1 E.2.1 dX12_draw_0 rfl (lv_at hl3 0 rfl) ?_
  refine x_get (pc := 1) (T := TX12) (N := 70) (ci := 12) (v := .ref (mr 1)) E hw1 inX12 0 1 q_1400 rfl rfl (by decide) rfl rfl dX12_draw_1 ?_
  refine lv_iconst (pc := 4) (v := 1) E.1 E.2.1 dX12_draw_4 (by decide +kernel) ?_
  refine lv_ldc (pc := 5) (v := 1664525) E.1 E.2.1 E.2.2.2.1 (E.2.2.2.2.1 _ q_1927) dX12_draw_5 ?_
  refine lv_aload_n (pc := 7) E.1 E.2.1 dX12_draw_7 rfl (lv_at hl3 0 rfl) ?_
  refine x_get (pc := 8) (T := TX12) (N := 70) (ci := 12) (v := .ref (mr 1)) E hw1 inX12 0 1 q_1400 rfl rfl (by decide) rfl rfl dX12_draw_8 ?_
  refine lv_iconst (pc := 11) (v := 1) E.1 E.2.1 dX12_draw_11 (by decide +kernel) ?_
  refine x_iald (pc := 12) (f := (mf 1)) E hw1 1 rfl (inbE (a := 1) (by decide +kernel) (by omega)) dX12_draw_12 ?_
  refine lv_topi (fun v_4 ev_4 => ?_)
  have hv_4 : v_4.toInt = ((mf 1) 1).toInt := by rw [ev_4]; rfl
  refine lv_imul (pc := 13) E.1 E.2.1 dX12_draw_13 ?_
  refine lv_topi (fun v_5 ev_5 => ?_)
  refine lv_ldc (pc := 14) (v := 1013904223) E.1 E.2.1 E.2.2.2.1 (E.2.2.2.2.1 _ q_1928) dX12_draw_14 ?_
  refine lv_iadd (pc := 16) E.1 E.2.1 dX12_draw_16 ?_
  refine lv_topi (fun v_6 ev_6 => ?_)
  refine x_iastG (pc := 17) (f := (mf 1)) (wf := fun g => (MW cI cJ M mr mi (va_up mf 1 g) mg)) E hw1 1 rfl (inbE (a := 1) (by decide +kernel) (by omega)) (fun _ => rfl) dX12_draw_17 (fun g_7 H locs eg_7 hw8 => ?_)
  have ht_9 : (g_7 0).toInt = ((mf 1) 0).toInt := by rw [eg_7]; rfl
  have ht_10 : (g_7 1).toInt = (v_6 : Int32).toInt := by rw [eg_7]; rfl
  have ht_11 : (g_7 2).toInt = ((mf 1) 2).toInt := by rw [eg_7]; rfl
  have ht_12 : (g_7 3).toInt = ((mf 1) 3).toInt := by rw [eg_7]; rfl
  have ht_13 : (g_7 5).toInt = ((mf 1) 5).toInt := by rw [eg_7]; rfl
  refine lv_aload_n (pc := 18) E.1 E.2.1 dX12_draw_18 rfl (lv_at hl3 0 rfl) ?_
  refine x_get (pc := 19) (T := TX12) (N := 70) (ci := 12) (v := .ref (mr 1)) E hw8 inX12 0 1 q_1400 rfl rfl (by decide) rfl rfl dX12_draw_19 ?_
  refine lv_iconst (pc := 22) (v := 1) E.1 E.2.1 dX12_draw_22 (by decide +kernel) ?_
  refine x_iald (pc := 23) (f := g_7) E hw8 1 rfl (inbE (a := 1) (by decide +kernel) (by omega)) dX12_draw_23 ?_
  refine lv_topi (fun v_14 ev_14 => ?_)
  have hv_14 : v_14.toInt = (g_7 1).toInt := by rw [ev_14]; rfl
  have hsv_14 : v_14.toInt = v_6.toInt := by rw [ev_14, eg_7, show (1 : Int32).toNatClampNeg = (1 : Int32).toNatClampNeg from (by  omega), pk_us]
  refine lv_bipush (pc := 24) (v := 8) E.1 E.2.1 dX12_draw_24 (by decide +kernel) ?_
  refine lv_iushr (pc := 26) E.1 E.2.1 dX12_draw_26 rfl ?_
  refine lv_topi (fun v_15 ev_15 => ?_)
  refine lv_iload_n (pc := 27) E.1 E.2.1 dX12_draw_27 rfl (lv_at hl3 1 rfl) ?_
  refine lv_irem (pc := 28) E.1 E.2.1 dX12_draw_28 (mneE (a := z_m.toInt) (b := 0) rfl (by decide +kernel) (by omega)) ?_
  refine lv_topi (fun v_16 ev_16 => ?_)
  exact em_i (w1 := (fun (u : (Nat → Int32)) => (MW cI cJ M mr mi (va_up mf 1 u) mg))) E hr hlk g_7 hw8 ⟨(by show (g_7 2).toInt = ((mf 1) 2).toInt; omega), (by show (g_7 3).toInt = ((mf 1) 3).toInt; omega), (by show (g_7 5).toInt = ((mf 1) 5).toInt; omega), (by show (g_7 0).toInt = ((mf 1) 0).toInt; omega), (show g_7 1 = LCG ((mf 1) 1) from (by rw [eg_7]; exact (LCG_of ev_5 ev_6 rfl).trans (congrArg LCG ev_4)))⟩ (Nat.le_of_ble_eq_true rfl) (Nat.le_of_ble_eq_true rfl) dX12_draw_29

set_option maxHeartbeats 4000000 in
set_option maxRecDepth 100000 in
theorem s_snowsU (l : Launch) (D : va_G) (cI cJ : ClassId) (sz M : Nat) (mr : Nat → Nat) (mi : Nat → Int32) (mf : Nat → Nat → Int32) (mg : Nat → Nat → Int64)   : Met l yX12_snows (Cond.code yX12_snows cX12_snows 1 none :: GW) ({ frames := 2, cells := 0, slots := 0, locals := 63 } : Room) (va_Pc [.ref M] (PW D cI cJ sz (MW cI cJ M mr mi mf mg) xT)) (va_Qv (fun (u : (Nat → Int32)) => ((u 2).toInt = ((mf 1) 2).toInt) ∧ ((u 3).toInt = ((mf 1) 3).toInt) ∧ ((u 5).toInt = ((mf 1) 5).toInt) ∧ ((u 0).toInt = ((mf 1) 0).toInt) ∧ (((mi 5).toInt = 0 → u 1 = fw1 (mi 12).toInt ((mf 1) 1)))) (fun u => QW D cI cJ (va_A (MW cI cJ M mr mi mf mg) sz) ((fun (u : (Nat → Int32)) => (MW cI cJ M mr mi (va_up mf 1 u) mg)) u)) (va_A (MW cI cJ M mr mi mf mg) sz)) 0 0 (va_A (MW cI cJ M mr mi mf mg) sz) := by
  refine mk_met (y := yX12_snows) (bytes := cX12_snows) (maxL := 1) (avs := [.ref M]) (WS := (MW cI cJ M mr mi mf mg)) (Qf := fun A => va_Qv (fun (u : (Nat → Int32)) => ((u 2).toInt = ((mf 1) 2).toInt) ∧ ((u 3).toInt = ((mf 1) 3).toInt) ∧ ((u 5).toInt = ((mf 1) 5).toInt) ∧ ((u 0).toInt = ((mf 1) 0).toInt) ∧ (((mi 5).toInt = 0 → u 1 = fw1 (mi 12).toInt ((mf 1) 1)))) (fun u => QW D cI cJ A ((fun (u : (Nat → Int32)) => (MW cI cJ M mr mi (va_up mf 1 u) mg)) u)) A) (by decide) (Nat.le_of_ble_eq_true rfl) ?_
  intro p e s m below meth c A ls E hr hlk hnm hX hw1 hl2
  have hl3 : lv_has ls 1 [(0, .ref M)] := hl2
  refine lv_aload_n (pc := 0) E.1 E.2.1 dX12_snows_0 rfl (lv_at hl3 0 rfl) ?_
  refine x_get (pc := 1) (T := TX12) (N := 70) (ci := 12) (v := .int (mi 5)) E hw1 inX12 0 5 q_1404 rfl rfl (by decide) rfl rfl dX12_snows_1 ?_
  refine lv_if_ne (pc := 4) (tgt := 14) E.1 E.2.1 dX12_snows_4 (by decide) (fun c_4 => ?_) (fun c_4 => ?_)
  · skip
    have hc_4 := neE (a := (mi 5).toInt) (b := 0) rfl (by decide +kernel) c_4
    exact em_v (w1 := (fun (u : (Nat → Int32)) => (MW cI cJ M mr mi (va_up mf 1 u) mg))) E hr hlk (mf 1) hw1 ⟨rfl, rfl, rfl, rfl, (show ((mi 5).toInt = 0 → (mf 1) 1 = fw1 (mi 12).toInt ((mf 1) 1)) from (fun h => by first | exact absurd h (by omega) | exact fw1_0 (by omega) rfl))⟩ (Nat.le_of_ble_eq_true rfl) (Nat.le_of_ble_eq_true rfl) dX12_snows_14
  · skip
    have hc_4 := eqE (a := (mi 5).toInt) (b := 0) rfl (by decide +kernel) c_4
    refine lv_aload_n (pc := 7) E.1 E.2.1 dX12_snows_7 rfl (lv_at hl3 0 rfl) ?_
    refine x_get (pc := 8) (T := TX12) (N := 70) (ci := 12) (v := .int (mi 12)) E hw1 inX12 0 12 q_1411 rfl rfl (by decide) rfl rfl dX12_snows_8 ?_
    refine lv_if_ne (pc := 11) (tgt := 15) E.1 E.2.1 dX12_snows_11 (by decide) (fun c_5 => ?_) (fun c_5 => ?_)
    · skip
      have hc_5 := neE (a := (mi 12).toInt) (b := 0) rfl (by decide +kernel) c_5
      refine lv_aload_n (pc := 15) E.1 E.2.1 dX12_snows_15 rfl (lv_at hl3 0 rfl) ?_
      refine x_get (pc := 16) (T := TX12) (N := 70) (ci := 12) (v := .ref (mr 1)) E hw1 inX12 0 1 q_1400 rfl rfl (by decide) rfl rfl dX12_snows_16 ?_
      refine lv_iconst (pc := 19) (v := 4) E.1 E.2.1 dX12_snows_19 (by decide +kernel) ?_
      refine lv_aload_n (pc := 20) E.1 E.2.1 dX12_snows_20 rfl (lv_at hl3 0 rfl) ?_
      refine lv_sipush (pc := 21) (v := 1000) E.1 E.2.1 dX12_snows_21 (by decide +kernel) ?_
      refine cm_i (pc := 24) hw1 (rn_M (As := [.int 1000]) (rest := [.int 4, .ref (mr 1)]) E hw1 (s_drawU l D cI cJ _ M mr mi mf mg 1000 (by show 1 ≤ (1000 : Int32).toInt; have k_0 : (1000 : Int32).toInt = 1000 := (by decide +kernel); omega)) (gdV q_1923 q_1925 q_113 q_162 q_1926) hdV_X12_draw ⟨rfl, rfl⟩ ⟨(Nat.le_of_ble_eq_true rfl), (Nat.le_of_ble_eq_true rfl)⟩ ⟨(Nat.le_of_ble_eq_true rfl), (Nat.le_of_ble_eq_true rfl)⟩ 12 rfl rfl rfl rfl hl3.1 rfl (Nat.le_of_ble_eq_true rfl) dX12_snows_24) (fun r_7 u_6 H1 locs hp hw8 => ?_)
      obtain ⟨gnow_9, rfl⟩ : ∃ z, z = u_6 := ⟨_, rfl⟩
      generalize H1 = H at hw8 ⊢
      have hw10 : WD D A s.heap (MW cI cJ M mr mi (va_up mf 1 gnow_9) mg) H locs := hw8
      obtain ⟨hp_11, hp_12, hp_13, hp_14, hp_15⟩ := hp
      have hp_11 : (gnow_9 2).toInt = ((mf 1) 2).toInt := hp_11
      have hp_12 : (gnow_9 3).toInt = ((mf 1) 3).toInt := hp_12
      have hp_13 : (gnow_9 5).toInt = ((mf 1) 5).toInt := hp_13
      have hp_14 : (gnow_9 0).toInt = ((mf 1) 0).toInt := hp_14
      have hp_15 : gnow_9 1 = LCG ((mf 1) 1) := hp_15
      refine lv_aload_n (pc := 27) E.1 E.2.1 dX12_snows_27 rfl (lv_at hl3 0 rfl) ?_
      refine x_get (pc := 28) (T := TX12) (N := 70) (ci := 12) (v := .int (mi 12)) E hw10 inX12 0 12 q_1411 rfl rfl (by decide) rfl rfl dX12_snows_28 ?_
      refine lv_icmp_ge (pc := 31) (tgt := 52) E.1 E.2.1 dX12_snows_31 (by decide) (fun c_16 => ?_) (fun c_16 => ?_)
      · skip
        have hc_16 := leE (a := (mi 12).toInt) (b := r_7.toInt) rfl rfl c_16
        refine lv_aload_n (pc := 52) E.1 E.2.1 dX12_snows_52 rfl (lv_at hl3 0 rfl) ?_
        refine lv_aload_n (pc := 53) E.1 E.2.1 dX12_snows_53 rfl (lv_at hl3 0 rfl) ?_
        refine x_get (pc := 54) (T := TX12) (N := 70) (ci := 12) (v := .ref (mr 1)) E hw10 inX12 0 1 q_1400 rfl rfl (by decide) rfl rfl dX12_snows_54 ?_
        refine lv_iconst (pc := 57) (v := 4) E.1 E.2.1 dX12_snows_57 (by decide +kernel) ?_
        refine x_iald (pc := 58) (f := gnow_9) E hw10 1 rfl (inbE (a := 4) (by decide +kernel) (by omega)) dX12_snows_58 ?_
        refine lv_topi (fun v_17 ev_17 => ?_)
        refine lv_iconst (pc := 59) (v := 1) E.1 E.2.1 dX12_snows_59 (by decide +kernel) ?_
        refine lv_isub (pc := 60) E.1 E.2.1 dX12_snows_60 ?_
        refine lv_topi (fun v_18 ev_18 => ?_)
        refine lv_iconst (pc := 61) (v := 0) E.1 E.2.1 dX12_snows_61 (by decide +kernel) ?_
        refine lv_bipush (pc := 62) (v := 9) E.1 E.2.1 dX12_snows_62 (by decide +kernel) ?_
        refine cm_i (pc := 64) hw10 (rn_M (As := [.int v_18, .int 0, .int 9]) (rest := [.int 4, .ref (mr 1)]) E hw10 (s_held l D cI cJ _ M mr mi (va_up mf 1 gnow_9) mg v_18 0 9 (by show (0 : Int32).toInt ≤ (9 : Int32).toInt; have k_0 : (0 : Int32).toInt = 0 := (by decide +kernel); have k_1 : (9 : Int32).toInt = 9 := (by decide +kernel); omega)) (gdV q_1895 q_1897 q_106 q_162 q_1898) hdV_X12_held ⟨rfl, rfl⟩ ⟨(Nat.le_of_ble_eq_true rfl), (Nat.le_of_ble_eq_true rfl)⟩ ⟨(Nat.le_of_ble_eq_true rfl), (Nat.le_of_ble_eq_true rfl)⟩ 12 rfl rfl rfl rfl hl3.1 rfl (Nat.le_of_ble_eq_true rfl) dX12_snows_64) (fun r_20 u_19 H1 locs hp hw21 => ?_)
        generalize H1 = H at hw21 ⊢
        have hw22 : WD D A s.heap (MW cI cJ M mr mi (va_up mf 1 gnow_9) mg) H locs := hw21
        have hp_23 := hp
        have hp_23 : (0 : Int32).toInt ≤ r_20.toInt ∧ r_20.toInt ≤ (9 : Int32).toInt := hp_23
        rw [show (0 : Int32).toInt = 0 from by decide +kernel] at hp_23
        rw [show (9 : Int32).toInt = 9 from by decide +kernel] at hp_23
        refine x_iastG (pc := 67) (f := gnow_9) (wf := fun g => (MW cI cJ M mr mi (va_up mf 1 g) mg)) E hw22 1 rfl (inbE (a := 4) (by decide +kernel) (by omega)) (fun _ => rfl) dX12_snows_67 (fun g_24 H locs eg_24 hw25 => ?_)
        have ht_26 : (g_24 0).toInt = (gnow_9 0).toInt := by rw [eg_24]; rfl
        have ht_27 : (g_24 1).toInt = (gnow_9 1).toInt := by rw [eg_24]; rfl
        have ht_28 : (g_24 2).toInt = (gnow_9 2).toInt := by rw [eg_24]; rfl
        have ht_29 : (g_24 3).toInt = (gnow_9 3).toInt := by rw [eg_24]; rfl
        have ht_30 : (g_24 5).toInt = (gnow_9 5).toInt := by rw [eg_24]; rfl
        exact em_v (w1 := (fun (u : (Nat → Int32)) => (MW cI cJ M mr mi (va_up mf 1 u) mg))) E hr hlk g_24 hw25 ⟨(by show (g_24 2).toInt = ((mf 1) 2).toInt; omega), (by show (g_24 3).toInt = ((mf 1) 3).toInt; omega), (by show (g_24 5).toInt = ((mf 1) 5).toInt; omega), (by show (g_24 0).toInt = ((mf 1) 0).toInt; omega), (show ((mi 5).toInt = 0 → g_24 1 = fw1 (mi 12).toInt ((mf 1) 1)) from (fun _ => fw1_n (by omega) (Eq.trans (by rw [eg_24]; rfl) hp_15)))⟩ (Nat.le_of_ble_eq_true rfl) (Nat.le_of_ble_eq_true rfl) dX12_snows_68
      · skip
        have hc_16 := nleE (a := (mi 12).toInt) (b := r_7.toInt) rfl rfl c_16
        refine lv_aload_n (pc := 34) E.1 E.2.1 dX12_snows_34 rfl (lv_at hl3 0 rfl) ?_
        refine lv_aload_n (pc := 35) E.1 E.2.1 dX12_snows_35 rfl (lv_at hl3 0 rfl) ?_
        refine x_get (pc := 36) (T := TX12) (N := 70) (ci := 12) (v := .ref (mr 1)) E hw10 inX12 0 1 q_1400 rfl rfl (by decide) rfl rfl dX12_snows_36 ?_
        refine lv_iconst (pc := 39) (v := 4) E.1 E.2.1 dX12_snows_39 (by decide +kernel) ?_
        refine x_iald (pc := 40) (f := gnow_9) E hw10 1 rfl (inbE (a := 4) (by decide +kernel) (by omega)) dX12_snows_40 ?_
        refine lv_topi (fun v_31 ev_31 => ?_)
        refine lv_iconst (pc := 41) (v := 1) E.1 E.2.1 dX12_snows_41 (by decide +kernel) ?_
        refine lv_iadd (pc := 42) E.1 E.2.1 dX12_snows_42 ?_
        refine lv_topi (fun v_32 ev_32 => ?_)
        refine lv_iconst (pc := 43) (v := 0) E.1 E.2.1 dX12_snows_43 (by decide +kernel) ?_
        refine lv_bipush (pc := 44) (v := 9) E.1 E.2.1 dX12_snows_44 (by decide +kernel) ?_
        refine cm_i (pc := 46) hw10 (rn_M (As := [.int v_32, .int 0, .int 9]) (rest := [.int 4, .ref (mr 1)]) E hw10 (s_held l D cI cJ _ M mr mi (va_up mf 1 gnow_9) mg v_32 0 9 (by show (0 : Int32).toInt ≤ (9 : Int32).toInt; have k_0 : (0 : Int32).toInt = 0 := (by decide +kernel); have k_1 : (9 : Int32).toInt = 9 := (by decide +kernel); omega)) (gdV q_1895 q_1897 q_106 q_162 q_1898) hdV_X12_held ⟨rfl, rfl⟩ ⟨(Nat.le_of_ble_eq_true rfl), (Nat.le_of_ble_eq_true rfl)⟩ ⟨(Nat.le_of_ble_eq_true rfl), (Nat.le_of_ble_eq_true rfl)⟩ 12 rfl rfl rfl rfl hl3.1 rfl (Nat.le_of_ble_eq_true rfl) dX12_snows_46) (fun r_34 u_33 H1 locs hp hw35 => ?_)
        generalize H1 = H at hw35 ⊢
        have hw36 : WD D A s.heap (MW cI cJ M mr mi (va_up mf 1 gnow_9) mg) H locs := hw35
        have hp_37 := hp
        have hp_37 : (0 : Int32).toInt ≤ r_34.toInt ∧ r_34.toInt ≤ (9 : Int32).toInt := hp_37
        rw [show (0 : Int32).toInt = 0 from by decide +kernel] at hp_37
        rw [show (9 : Int32).toInt = 9 from by decide +kernel] at hp_37
        refine lv_goto (pc := 49) (tgt := 67) E.1 E.2.1 dX12_snows_49 (by decide) ?_
        refine x_iastG (pc := 67) (f := gnow_9) (wf := fun g => (MW cI cJ M mr mi (va_up mf 1 g) mg)) E hw36 1 rfl (inbE (a := 4) (by decide +kernel) (by omega)) (fun _ => rfl) dX12_snows_67 (fun g_38 H locs eg_38 hw39 => ?_)
        have ht_40 : (g_38 0).toInt = (gnow_9 0).toInt := by rw [eg_38]; rfl
        have ht_41 : (g_38 1).toInt = (gnow_9 1).toInt := by rw [eg_38]; rfl
        have ht_42 : (g_38 2).toInt = (gnow_9 2).toInt := by rw [eg_38]; rfl
        have ht_43 : (g_38 3).toInt = (gnow_9 3).toInt := by rw [eg_38]; rfl
        have ht_44 : (g_38 5).toInt = (gnow_9 5).toInt := by rw [eg_38]; rfl
        exact em_v (w1 := (fun (u : (Nat → Int32)) => (MW cI cJ M mr mi (va_up mf 1 u) mg))) E hr hlk g_38 hw39 ⟨(by show (g_38 2).toInt = ((mf 1) 2).toInt; omega), (by show (g_38 3).toInt = ((mf 1) 3).toInt; omega), (by show (g_38 5).toInt = ((mf 1) 5).toInt; omega), (by show (g_38 0).toInt = ((mf 1) 0).toInt; omega), (show ((mi 5).toInt = 0 → g_38 1 = fw1 (mi 12).toInt ((mf 1) 1)) from (fun _ => fw1_n (by omega) (Eq.trans (by rw [eg_38]; rfl) hp_15)))⟩ (Nat.le_of_ble_eq_true rfl) (Nat.le_of_ble_eq_true rfl) dX12_snows_68
    · skip
      have hc_5 := eqE (a := (mi 12).toInt) (b := 0) rfl (by decide +kernel) c_5
      exact em_v (w1 := (fun (u : (Nat → Int32)) => (MW cI cJ M mr mi (va_up mf 1 u) mg))) E hr hlk (mf 1) hw1 ⟨rfl, rfl, rfl, rfl, (show ((mi 5).toInt = 0 → (mf 1) 1 = fw1 (mi 12).toInt ((mf 1) 1)) from (fun h => by first | exact absurd h (by omega) | exact fw1_0 (by omega) rfl))⟩ (Nat.le_of_ble_eq_true rfl) (Nat.le_of_ble_eq_true rfl) dX12_snows_14
set_option maxHeartbeats 4000000 in
set_option maxRecDepth 100000 in
theorem s_owesU (l : Launch) (D : va_G) (cI cJ : ClassId) (sz M : Nat) (mr : Nat → Nat) (mi : Nat → Int32) (mf : Nat → Nat → Int32) (mg : Nat → Nat → Int64)  (h0 : 0 ≤ (mi 6).toInt ∧ (mi 6).toInt ≤ 10) (h1 : (-29) ≤ (mi 15).toInt ∧ (mi 15).toInt ≤ 69) : Met l yX12_owes (Cond.code yX12_owes cX12_owes 3 none :: GW) ({ frames := 2, cells := 0, slots := 0, locals := 63 } : Room) (va_Pc [.ref M] (PW D cI cJ sz (MW cI cJ M mr mi mf mg) xT)) (va_Qv (fun (u : (Nat → Int32)) => ((u 2).toInt = ((mf 1) 2).toInt) ∧ ((u 3).toInt = ((mf 1) 3).toInt) ∧ ((u 5).toInt = ((mf 1) 5).toInt) ∧ ((u 0).toInt = ((mf 1) 0).toInt) ∧ ((u 1).toInt = ((mf 1) 1).toInt)) (fun u => QW D cI cJ (va_A (MW cI cJ M mr mi mf mg) sz) ((fun (u : (Nat → Int32)) => (MW cI cJ M mr mi (va_up mf 1 u) mg)) u)) (va_A (MW cI cJ M mr mi mf mg) sz)) 0 0 (va_A (MW cI cJ M mr mi mf mg) sz) := by
  refine mk_met (y := yX12_owes) (bytes := cX12_owes) (maxL := 3) (avs := [.ref M]) (WS := (MW cI cJ M mr mi mf mg)) (Qf := fun A => va_Qv (fun (u : (Nat → Int32)) => ((u 2).toInt = ((mf 1) 2).toInt) ∧ ((u 3).toInt = ((mf 1) 3).toInt) ∧ ((u 5).toInt = ((mf 1) 5).toInt) ∧ ((u 0).toInt = ((mf 1) 0).toInt) ∧ ((u 1).toInt = ((mf 1) 1).toInt)) (fun u => QW D cI cJ A ((fun (u : (Nat → Int32)) => (MW cI cJ M mr mi (va_up mf 1 u) mg)) u)) A) (by decide) (Nat.le_of_ble_eq_true rfl) ?_
  intro p e s m below meth c A ls E hr hlk hnm hX hw1 hl2
  have hl3 : lv_has ls 3 [(0, .ref M)] := hl2
  refine lv_iconst (pc := 0) (v := 0) E.1 E.2.1 dX12_owes_0 (by decide +kernel) ?_
  refine lv_istore_n (pc := 1) (lv' := [(1, .int 0), (0, .ref M)]) E.1 E.2.1 dX12_owes_1 rfl hl3 (by decide) rfl (fun ls hl4 => ?_)
  have loop_5 : ∀ (k : Nat) (x_6 : Int32) (g_7 : Nat → Int32) (H : Heap) (locs : List Loc) (ls : Array Slot), (0 ≤ x_6.toInt) ∧ (x_6.toInt ≤ (mi 6).toInt) ∧ ((g_7 0).toInt = ((mf 1) 0).toInt) ∧ ((g_7 1).toInt = ((mf 1) 1).toInt) ∧ ((g_7 2).toInt = ((mf 1) 2).toInt) ∧ ((g_7 3).toInt = ((mf 1) 3).toInt) ∧ ((g_7 5).toInt = ((mf 1) 5).toInt) → (mi 6).toInt - x_6.toInt < (k : Int) → WD D A s.heap (MW cI cJ M mr mi (va_up mf 1 g_7) mg) H locs → lv_has ls 3 [(1, .int x_6), (0, .ref M)] → W p l e ({ frames := 2, cells := 0, slots := 0, locals := 63 } : Room) s m ([.ref M] : List Value).toArray below meth c H locs 0 0 (MQ below (va_Qv (fun (u : (Nat → Int32)) => ((u 2).toInt = ((mf 1) 2).toInt) ∧ ((u 3).toInt = ((mf 1) 3).toInt) ∧ ((u 5).toInt = ((mf 1) 5).toInt) ∧ ((u 0).toInt = ((mf 1) 0).toInt) ∧ ((u 1).toInt = ((mf 1) 1).toInt)) (fun u => QW D cI cJ A ((fun (u : (Nat → Int32)) => (MW cI cJ M mr mi (va_up mf 1 u) mg)) u)) A) ([.ref M] : List Value).toArray s 0 0 A) (F0 m 2 ls []) := by
    intro k
    induction k with
    | zero =>
      intro x_6 g_7 _ _ _ hinv hm
      obtain ⟨hi_7_0, hi_7_1, hi_7_2, hi_7_3, hi_7_4, hi_7_5, hi_7_6⟩ := hinv
      exact absurd hm (by omega)
    | succ k ih_8 =>
      intro x_6 g_7 H locs ls hinv hm hw9 hl10
      obtain ⟨hi_7_0, hi_7_1, hi_7_2, hi_7_3, hi_7_4, hi_7_5, hi_7_6⟩ := hinv
      refine lv_iload_n (pc := 2) E.1 E.2.1 dX12_owes_2 rfl (lv_at hl10 0 rfl) ?_
      refine lv_aload_n (pc := 3) E.1 E.2.1 dX12_owes_3 rfl (lv_at hl10 1 rfl) ?_
      refine x_get (pc := 4) (T := TX12) (N := 70) (ci := 12) (v := .int (mi 6)) E hw9 inX12 0 6 q_1405 rfl rfl (by decide) rfl rfl dX12_owes_4 ?_
      refine lv_icmp_ge (pc := 7) (tgt := 62) E.1 E.2.1 dX12_owes_7 (by decide) (fun c_11 => ?_) (fun c_11 => ?_)
      · skip
        have hc_11 := leE (a := (mi 6).toInt) (b := x_6.toInt) rfl rfl c_11
        exact em_v (w1 := (fun (u : (Nat → Int32)) => (MW cI cJ M mr mi (va_up mf 1 u) mg))) E hr hlk g_7 hw9 ⟨hi_7_4, hi_7_5, hi_7_6, hi_7_2, hi_7_3⟩ (Nat.le_of_ble_eq_true rfl) (Nat.le_of_ble_eq_true rfl) dX12_owes_62
      · skip
        have hc_11 := nleE (a := (mi 6).toInt) (b := x_6.toInt) rfl rfl c_11
        refine lv_aload_n (pc := 10) E.1 E.2.1 dX12_owes_10 rfl (lv_at hl10 1 rfl) ?_
        refine lv_iload_n (pc := 11) E.1 E.2.1 dX12_owes_11 rfl (lv_at hl10 0 rfl) ?_
        refine cm_i (pc := 12) hw9 (rn_M (As := [.int x_6]) (rest := []) E hw9 (s_sinceLast l D cI cJ _ M mr mi (va_up mf 1 g_7) mg x_6 (by show 0 ≤ x_6.toInt ∧ x_6.toInt ≤ 9; omega)) (gdV q_1863 q_1865 q_98 q_162 q_1866) hdV_X12_sinceLast ⟨rfl, rfl⟩ ⟨(Nat.le_of_ble_eq_true rfl), (Nat.le_of_ble_eq_true rfl)⟩ ⟨(Nat.le_of_ble_eq_true rfl), (Nat.le_of_ble_eq_true rfl)⟩ 12 rfl rfl rfl rfl hl10.1 rfl (Nat.le_of_ble_eq_true rfl) dX12_owes_12) (fun r_13 u_12 H1 locs hp hw14 => ?_)
        generalize H1 = H at hw14 ⊢
        have hw15 : WD D A s.heap (MW cI cJ M mr mi (va_up mf 1 g_7) mg) H locs := hw14
        refine lv_istore_n (pc := 15) (lv' := [(2, .int r_13), (1, .int x_6), (0, .ref M)]) E.1 E.2.1 dX12_owes_15 rfl hl10 (by decide) rfl (fun ls hl16 => ?_)
        refine lv_iload_n (pc := 16) E.1 E.2.1 dX12_owes_16 rfl (lv_at hl16 0 rfl) ?_
        refine lv_if_le (pc := 17) (tgt := 56) E.1 E.2.1 dX12_owes_17 (by decide) (fun c_17 => ?_) (fun c_17 => ?_)
        · skip
          have hc_17 := leE (a := r_13.toInt) (b := 0) rfl (by decide +kernel) c_17
          obtain ⟨v_18, ev_18⟩ : ∃ z : Int32, x_6 + Int32.ofInt (1) = z := ⟨_, rfl⟩
          have hv_18 : v_18.toInt = x_6.toInt + (1) := by rw [← ev_18]; exact incE rfl (by decide) (by omega)
          refine lv_iinc (pc := 56) (v := v_18) (lv' := [(1, .int v_18), (2, .int r_13), (0, .ref M)]) E.1 E.2.1 dX12_owes_56 hl16 (k := 1) rfl ev_18 (by decide) rfl (fun ls hl19 => ?_)
          refine lv_goto (pc := 59) (tgt := 2) E.1 E.2.1 dX12_owes_59 (by decide) ?_
          exact ih_8 v_18 g_7 _ _ _ ⟨(by show 0 ≤ v_18.toInt; omega), (by show v_18.toInt ≤ (mi 6).toInt; omega), hi_7_2, hi_7_3, hi_7_4, hi_7_5, hi_7_6⟩ (by omega) hw15 (lv_sub hl19 [0, 2] rfl)
        · skip
          have hc_17 := nleE (a := r_13.toInt) (b := 0) rfl (by decide +kernel) c_17
          refine lv_iload_n (pc := 20) E.1 E.2.1 dX12_owes_20 rfl (lv_at hl16 0 rfl) ?_
          refine lv_aload_n (pc := 21) E.1 E.2.1 dX12_owes_21 rfl (lv_at hl16 2 rfl) ?_
          refine cm_i (pc := 22) hw15 (rn_M (As := []) (rest := [.int r_13]) E hw15 (s_due l D cI cJ _ M mr mi (va_up mf 1 g_7) mg h1) (gdV q_1911 q_1913 q_110 q_162 q_1914) hdV_X12_due ⟨rfl, rfl⟩ ⟨(Nat.le_of_ble_eq_true rfl), (Nat.le_of_ble_eq_true rfl)⟩ ⟨(Nat.le_of_ble_eq_true rfl), (Nat.le_of_ble_eq_true rfl)⟩ 12 rfl rfl rfl rfl hl16.1 rfl (Nat.le_of_ble_eq_true rfl) dX12_owes_22) (fun r_21 u_20 H1 locs hp hw22 => ?_)
          generalize H1 = H at hw22 ⊢
          have hw23 : WD D A s.heap (MW cI cJ M mr mi (va_up mf 1 g_7) mg) H locs := hw22
          have hp_24 := hp
          have hp_24 : 1 ≤ r_21.toInt ∧ r_21.toInt ≤ 99 := hp_24
          refine lv_irem (pc := 25) E.1 E.2.1 dX12_owes_25 (mneE (a := r_21.toInt) (b := 0) rfl (by decide +kernel) (by omega)) ?_
          refine lv_topi (fun v_25 ev_25 => ?_)
          refine lv_if_ne (pc := 26) (tgt := 56) E.1 E.2.1 dX12_owes_26 (by decide) (fun c_26 => ?_) (fun c_26 => ?_)
          · skip
            have hc_26 := neE (a := v_25.toInt) (b := 0) rfl (by decide +kernel) c_26
            obtain ⟨v_27, ev_27⟩ : ∃ z : Int32, x_6 + Int32.ofInt (1) = z := ⟨_, rfl⟩
            have hv_27 : v_27.toInt = x_6.toInt + (1) := by rw [← ev_27]; exact incE rfl (by decide) (by omega)
            refine lv_iinc (pc := 56) (v := v_27) (lv' := [(1, .int v_27), (2, .int r_13), (0, .ref M)]) E.1 E.2.1 dX12_owes_56 hl16 (k := 1) rfl ev_27 (by decide) rfl (fun ls hl28 => ?_)
            refine lv_goto (pc := 59) (tgt := 2) E.1 E.2.1 dX12_owes_59 (by decide) ?_
            exact ih_8 v_27 g_7 _ _ _ ⟨(by show 0 ≤ v_27.toInt; omega), (by show v_27.toInt ≤ (mi 6).toInt; omega), hi_7_2, hi_7_3, hi_7_4, hi_7_5, hi_7_6⟩ (by omega) hw23 (lv_sub hl28 [0, 2] rfl)
          · skip
            have hc_26 := eqE (a := v_25.toInt) (b := 0) rfl (by decide +kernel) c_26
            refine lv_aload_n (pc := 29) E.1 E.2.1 dX12_owes_29 rfl (lv_at hl16 2 rfl) ?_
            refine x_get (pc := 30) (T := TX12) (N := 70) (ci := 12) (v := .ref (mr 1)) E hw23 inX12 0 1 q_1400 rfl rfl (by decide) rfl rfl dX12_owes_30 ?_
            refine lv_bipush (pc := 33) (v := 16) E.1 E.2.1 dX12_owes_33 (by decide +kernel) ?_
            refine lv_iload_n (pc := 35) E.1 E.2.1 dX12_owes_35 rfl (lv_at hl16 1 rfl) ?_
            refine lv_iadd (pc := 36) E.1 E.2.1 dX12_owes_36 ?_
            refine lv_topi (fun v_29 ev_29 => ?_)
            have hv_29 : v_29.toInt = 16 + x_6.toInt := by rw [ev_29]; exact addE (by decide +kernel) rfl (by omega)
            refine lv_aload_n (pc := 37) E.1 E.2.1 dX12_owes_37 rfl (lv_at hl16 2 rfl) ?_
            refine lv_aload_n (pc := 38) E.1 E.2.1 dX12_owes_38 rfl (lv_at hl16 2 rfl) ?_
            refine x_get (pc := 39) (T := TX12) (N := 70) (ci := 12) (v := .ref (mr 1)) E hw23 inX12 0 1 q_1400 rfl rfl (by decide) rfl rfl dX12_owes_39 ?_
            refine lv_bipush (pc := 42) (v := 16) E.1 E.2.1 dX12_owes_42 (by decide +kernel) ?_
            refine lv_iload_n (pc := 44) E.1 E.2.1 dX12_owes_44 rfl (lv_at hl16 1 rfl) ?_
            refine lv_iadd (pc := 45) E.1 E.2.1 dX12_owes_45 ?_
            refine lv_topi (fun v_30 ev_30 => ?_)
            have hv_30 : v_30.toInt = 16 + x_6.toInt := by rw [ev_30]; exact addE (by decide +kernel) rfl (by omega)
            refine x_iald (pc := 46) (f := g_7) E hw23 1 rfl (inbE (a := v_30.toInt) rfl (by omega)) dX12_owes_46 ?_
            refine lv_topi (fun v_31 ev_31 => ?_)
            refine lv_iconst (pc := 47) (v := 1) E.1 E.2.1 dX12_owes_47 (by decide +kernel) ?_
            refine lv_iadd (pc := 48) E.1 E.2.1 dX12_owes_48 ?_
            refine lv_topi (fun v_32 ev_32 => ?_)
            refine lv_iconst (pc := 49) (v := 0) E.1 E.2.1 dX12_owes_49 (by decide +kernel) ?_
            refine lv_bipush (pc := 50) (v := 99) E.1 E.2.1 dX12_owes_50 (by decide +kernel) ?_
            refine cm_i (pc := 52) hw23 (rn_M (As := [.int v_32, .int 0, .int 99]) (rest := [.int v_29, .ref (mr 1)]) E hw23 (s_held l D cI cJ _ M mr mi (va_up mf 1 g_7) mg v_32 0 99 (by show (0 : Int32).toInt ≤ (99 : Int32).toInt; have k_0 : (0 : Int32).toInt = 0 := (by decide +kernel); have k_1 : (99 : Int32).toInt = 99 := (by decide +kernel); omega)) (gdV q_1895 q_1897 q_106 q_162 q_1898) hdV_X12_held ⟨rfl, rfl⟩ ⟨(Nat.le_of_ble_eq_true rfl), (Nat.le_of_ble_eq_true rfl)⟩ ⟨(Nat.le_of_ble_eq_true rfl), (Nat.le_of_ble_eq_true rfl)⟩ 12 rfl rfl rfl rfl hl16.1 rfl (Nat.le_of_ble_eq_true rfl) dX12_owes_52) (fun r_34 u_33 H1 locs hp hw35 => ?_)
            generalize H1 = H at hw35 ⊢
            have hw36 : WD D A s.heap (MW cI cJ M mr mi (va_up mf 1 g_7) mg) H locs := hw35
            have hp_37 := hp
            have hp_37 : (0 : Int32).toInt ≤ r_34.toInt ∧ r_34.toInt ≤ (99 : Int32).toInt := hp_37
            rw [show (0 : Int32).toInt = 0 from by decide +kernel] at hp_37
            rw [show (99 : Int32).toInt = 99 from by decide +kernel] at hp_37
            refine x_iastG (pc := 55) (f := g_7) (wf := fun g => (MW cI cJ M mr mi (va_up mf 1 g) mg)) E hw36 1 rfl (inbE (a := v_29.toInt) rfl (by omega)) (fun _ => rfl) dX12_owes_55 (fun g_38 H locs eg_38 hw39 => ?_)
            have ht_40 : (g_38 0).toInt = (g_7 0).toInt := by rw [eg_38, pk_un (by have q9 := idxI (x := v_29) (by omega); omega)]
            have ht_41 : (g_38 1).toInt = (g_7 1).toInt := by rw [eg_38, pk_un (by have q9 := idxI (x := v_29) (by omega); omega)]
            have ht_42 : (g_38 2).toInt = (g_7 2).toInt := by rw [eg_38, pk_un (by have q9 := idxI (x := v_29) (by omega); omega)]
            have ht_43 : (g_38 3).toInt = (g_7 3).toInt := by rw [eg_38, pk_un (by have q9 := idxI (x := v_29) (by omega); omega)]
            have ht_44 : (g_38 5).toInt = (g_7 5).toInt := by rw [eg_38, pk_un (by have q9 := idxI (x := v_29) (by omega); omega)]
            obtain ⟨v_45, ev_45⟩ : ∃ z : Int32, x_6 + Int32.ofInt (1) = z := ⟨_, rfl⟩
            have hv_45 : v_45.toInt = x_6.toInt + (1) := by rw [← ev_45]; exact incE rfl (by decide) (by omega)
            refine lv_iinc (pc := 56) (v := v_45) (lv' := [(1, .int v_45), (2, .int r_13), (0, .ref M)]) E.1 E.2.1 dX12_owes_56 hl16 (k := 1) rfl ev_45 (by decide) rfl (fun ls hl46 => ?_)
            refine lv_goto (pc := 59) (tgt := 2) E.1 E.2.1 dX12_owes_59 (by decide) ?_
            exact ih_8 v_45 g_38 _ _ _ ⟨(by show 0 ≤ v_45.toInt; omega), (by show v_45.toInt ≤ (mi 6).toInt; omega), (by show (g_38 0).toInt = ((mf 1) 0).toInt; omega), (by show (g_38 1).toInt = ((mf 1) 1).toInt; omega), (by show (g_38 2).toInt = ((mf 1) 2).toInt; omega), (by show (g_38 3).toInt = ((mf 1) 3).toInt; omega), (by show (g_38 5).toInt = ((mf 1) 5).toInt; omega)⟩ (by omega) hw39 (lv_sub hl46 [0, 2] rfl)
  exact loop_5 (Int.toNat ((mi 6).toInt - 0) + 1) 0 (mf 1) _ _ _ ⟨(by show 0 ≤ (0 : Int32).toInt; have k_0 : (0 : Int32).toInt = 0 := (by decide +kernel); omega), (by show (0 : Int32).toInt ≤ (mi 6).toInt; have k_0 : (0 : Int32).toInt = 0 := (by decide +kernel); omega), rfl, rfl, rfl, rfl, rfl⟩ (by have k_0 : (0 : Int32).toInt = 0 := (by decide +kernel); omega) hw1 (lv_sub hl4 [0, 1] rfl)
set_option maxHeartbeats 4000000 in
set_option maxRecDepth 100000 in
theorem s_spoilsU (l : Launch) (D : va_G) (cI cJ : ClassId) (sz M : Nat) (mr : Nat → Nat) (mi : Nat → Int32) (mf : Nat → Nat → Int32) (mg : Nat → Nat → Int64)  (h0 : 0 ≤ (mi 44).toInt ∧ (mi 44).toInt ≤ 10) : Met l yX12_spoils (Cond.code yX12_spoils cX12_spoils 2 none :: GW) ({ frames := 2, cells := 0, slots := 0, locals := 62 } : Room) (va_Pc [.ref M] (PW D cI cJ sz (MW cI cJ M mr mi mf mg) xT)) (va_Qv (fun (u : (Nat → Int32)) => ((u 2).toInt = ((mf 1) 2).toInt) ∧ ((u 3).toInt = ((mf 1) 3).toInt) ∧ ((u 5).toInt = ((mf 1) 5).toInt) ∧ ((u 0).toInt = ((mf 1) 0).toInt) ∧ ((u 1).toInt = ((mf 1) 1).toInt)) (fun u => QW D cI cJ (va_A (MW cI cJ M mr mi mf mg) sz) ((fun (u : (Nat → Int32)) => (MW cI cJ M mr mi (va_up mf 1 u) mg)) u)) (va_A (MW cI cJ M mr mi mf mg) sz)) 0 0 (va_A (MW cI cJ M mr mi mf mg) sz) := by
  refine mk_met (y := yX12_spoils) (bytes := cX12_spoils) (maxL := 2) (avs := [.ref M]) (WS := (MW cI cJ M mr mi mf mg)) (Qf := fun A => va_Qv (fun (u : (Nat → Int32)) => ((u 2).toInt = ((mf 1) 2).toInt) ∧ ((u 3).toInt = ((mf 1) 3).toInt) ∧ ((u 5).toInt = ((mf 1) 5).toInt) ∧ ((u 0).toInt = ((mf 1) 0).toInt) ∧ ((u 1).toInt = ((mf 1) 1).toInt)) (fun u => QW D cI cJ A ((fun (u : (Nat → Int32)) => (MW cI cJ M mr mi (va_up mf 1 u) mg)) u)) A) (by decide) (Nat.le_of_ble_eq_true rfl) ?_
  intro p e s m below meth c A ls E hr hlk hnm hX hw1 hl2
  have hl3 : lv_has ls 2 [(0, .ref M)] := hl2
  refine lv_iconst (pc := 0) (v := 0) E.1 E.2.1 dX12_spoils_0 (by decide +kernel) ?_
  refine lv_istore_n (pc := 1) (lv' := [(1, .int 0), (0, .ref M)]) E.1 E.2.1 dX12_spoils_1 rfl hl3 (by decide) rfl (fun ls hl4 => ?_)
  have loop_5 : ∀ (k : Nat) (x_6 : Int32) (g_7 : Nat → Int32) (H : Heap) (locs : List Loc) (ls : Array Slot), (0 ≤ x_6.toInt) ∧ (x_6.toInt ≤ (mi 44).toInt) ∧ ((g_7 0).toInt = ((mf 1) 0).toInt) ∧ ((g_7 1).toInt = ((mf 1) 1).toInt) ∧ ((g_7 2).toInt = ((mf 1) 2).toInt) ∧ ((g_7 3).toInt = ((mf 1) 3).toInt) ∧ ((g_7 5).toInt = ((mf 1) 5).toInt) → (mi 44).toInt - x_6.toInt < (k : Int) → WD D A s.heap (MW cI cJ M mr mi (va_up mf 1 g_7) mg) H locs → lv_has ls 2 [(1, .int x_6), (0, .ref M)] → W p l e ({ frames := 2, cells := 0, slots := 0, locals := 62 } : Room) s m ([.ref M] : List Value).toArray below meth c H locs 0 0 (MQ below (va_Qv (fun (u : (Nat → Int32)) => ((u 2).toInt = ((mf 1) 2).toInt) ∧ ((u 3).toInt = ((mf 1) 3).toInt) ∧ ((u 5).toInt = ((mf 1) 5).toInt) ∧ ((u 0).toInt = ((mf 1) 0).toInt) ∧ ((u 1).toInt = ((mf 1) 1).toInt)) (fun u => QW D cI cJ A ((fun (u : (Nat → Int32)) => (MW cI cJ M mr mi (va_up mf 1 u) mg)) u)) A) ([.ref M] : List Value).toArray s 0 0 A) (F0 m 2 ls []) := by
    intro k
    induction k with
    | zero =>
      intro x_6 g_7 _ _ _ hinv hm
      obtain ⟨hi_7_0, hi_7_1, hi_7_2, hi_7_3, hi_7_4, hi_7_5, hi_7_6⟩ := hinv
      exact absurd hm (by omega)
    | succ k ih_8 =>
      intro x_6 g_7 H locs ls hinv hm hw9 hl10
      obtain ⟨hi_7_0, hi_7_1, hi_7_2, hi_7_3, hi_7_4, hi_7_5, hi_7_6⟩ := hinv
      refine lv_iload_n (pc := 2) E.1 E.2.1 dX12_spoils_2 rfl (lv_at hl10 0 rfl) ?_
      refine lv_aload_n (pc := 3) E.1 E.2.1 dX12_spoils_3 rfl (lv_at hl10 1 rfl) ?_
      refine x_get (pc := 4) (T := TX12) (N := 70) (ci := 12) (v := .int (mi 44)) E hw9 inX12 0 44 q_1443 rfl rfl (by decide) rfl rfl dX12_spoils_4 ?_
      refine lv_icmp_ge (pc := 7) (tgt := 53) E.1 E.2.1 dX12_spoils_7 (by decide) (fun c_11 => ?_) (fun c_11 => ?_)
      · skip
        have hc_11 := leE (a := (mi 44).toInt) (b := x_6.toInt) rfl rfl c_11
        exact em_v (w1 := (fun (u : (Nat → Int32)) => (MW cI cJ M mr mi (va_up mf 1 u) mg))) E hr hlk g_7 hw9 ⟨hi_7_4, hi_7_5, hi_7_6, hi_7_2, hi_7_3⟩ (Nat.le_of_ble_eq_true rfl) (Nat.le_of_ble_eq_true rfl) dX12_spoils_53
      · skip
        have hc_11 := nleE (a := (mi 44).toInt) (b := x_6.toInt) rfl rfl c_11
        refine lv_aload_n (pc := 10) E.1 E.2.1 dX12_spoils_10 rfl (lv_at hl10 1 rfl) ?_
        refine x_get (pc := 11) (T := TX12) (N := 70) (ci := 12) (v := .ref (mr 1)) E hw9 inX12 0 1 q_1400 rfl rfl (by decide) rfl rfl dX12_spoils_11 ?_
        refine lv_bipush (pc := 14) (v := 46) E.1 E.2.1 dX12_spoils_14 (by decide +kernel) ?_
        refine lv_iload_n (pc := 16) E.1 E.2.1 dX12_spoils_16 rfl (lv_at hl10 0 rfl) ?_
        refine lv_iadd (pc := 17) E.1 E.2.1 dX12_spoils_17 ?_
        refine lv_topi (fun v_12 ev_12 => ?_)
        have hv_12 : v_12.toInt = 46 + x_6.toInt := by rw [ev_12]; exact addE (by decide +kernel) rfl (by omega)
        refine x_iald (pc := 18) (f := g_7) E hw9 1 rfl (inbE (a := v_12.toInt) rfl (by omega)) dX12_spoils_18 ?_
        refine lv_topi (fun v_13 ev_13 => ?_)
        refine lv_if_ne (pc := 19) (tgt := 47) E.1 E.2.1 dX12_spoils_19 (by decide) (fun c_14 => ?_) (fun c_14 => ?_)
        · skip
          have hc_14 := neE (a := v_13.toInt) (b := 0) rfl (by decide +kernel) c_14
          obtain ⟨v_15, ev_15⟩ : ∃ z : Int32, x_6 + Int32.ofInt (1) = z := ⟨_, rfl⟩
          have hv_15 : v_15.toInt = x_6.toInt + (1) := by rw [← ev_15]; exact incE rfl (by decide) (by omega)
          refine lv_iinc (pc := 47) (v := v_15) (lv' := [(1, .int v_15), (0, .ref M)]) E.1 E.2.1 dX12_spoils_47 hl10 (k := 0) rfl ev_15 (by decide) rfl (fun ls hl16 => ?_)
          refine lv_goto (pc := 50) (tgt := 2) E.1 E.2.1 dX12_spoils_50 (by decide) ?_
          exact ih_8 v_15 g_7 _ _ _ ⟨(by show 0 ≤ v_15.toInt; omega), (by show v_15.toInt ≤ (mi 44).toInt; omega), hi_7_2, hi_7_3, hi_7_4, hi_7_5, hi_7_6⟩ (by omega) hw9 (lv_sub hl16 [0, 1] rfl)
        · skip
          have hc_14 := eqE (a := v_13.toInt) (b := 0) rfl (by decide +kernel) c_14
          refine lv_aload_n (pc := 22) E.1 E.2.1 dX12_spoils_22 rfl (lv_at hl10 1 rfl) ?_
          refine lv_iload_n (pc := 23) E.1 E.2.1 dX12_spoils_23 rfl (lv_at hl10 0 rfl) ?_
          refine lv_iconst (pc := 24) (v := 3) E.1 E.2.1 dX12_spoils_24 (by decide +kernel) ?_
          refine cm_i (pc := 25) hw9 (rn_M (As := [.int x_6, .int 3]) (rest := []) E hw9 (s_ofNeed l D cI cJ _ M mr mi (va_up mf 1 g_7) mg x_6 3 (by show 0 ≤ x_6.toInt ∧ x_6.toInt ≤ 9; omega) (by show 0 ≤ (3 : Int32).toInt ∧ (3 : Int32).toInt ≤ 4; have k_0 : (3 : Int32).toInt = 3 := (by decide +kernel); omega)) (gdV q_1871 q_1873 q_100 q_162 q_1874) hdV_X12_ofNeed ⟨rfl, rfl⟩ ⟨(Nat.le_of_ble_eq_true rfl), (Nat.le_of_ble_eq_true rfl)⟩ ⟨(Nat.le_of_ble_eq_true rfl), (Nat.le_of_ble_eq_true rfl)⟩ 12 rfl rfl rfl rfl hl10.1 rfl (Nat.le_of_ble_eq_true rfl) dX12_spoils_25) (fun r_18 u_17 H1 locs hp hw19 => ?_)
          generalize H1 = H at hw19 ⊢
          have hw20 : WD D A s.heap (MW cI cJ M mr mi (va_up mf 1 g_7) mg) H locs := hw19
          refine lv_aload_n (pc := 28) E.1 E.2.1 dX12_spoils_28 rfl (lv_at hl10 1 rfl) ?_
          refine x_get (pc := 29) (T := TX12) (N := 70) (ci := 12) (v := .ref (mr 1)) E hw20 inX12 0 1 q_1400 rfl rfl (by decide) rfl rfl dX12_spoils_29 ?_
          refine lv_iconst (pc := 32) (v := 0) E.1 E.2.1 dX12_spoils_32 (by decide +kernel) ?_
          refine x_iald (pc := 33) (f := g_7) E hw20 1 rfl (inbE (a := 0) (by decide +kernel) (by omega)) dX12_spoils_33 ?_
          refine lv_topi (fun v_21 ev_21 => ?_)
          have hv_21 : v_21.toInt = (g_7 0).toInt := by rw [ev_21]; rfl
          refine lv_icmp_ne (pc := 34) (tgt := 47) E.1 E.2.1 dX12_spoils_34 (by decide) (fun c_22 => ?_) (fun c_22 => ?_)
          · skip
            have hc_22 := neE (a := r_18.toInt) (b := v_21.toInt) rfl rfl c_22
            obtain ⟨v_23, ev_23⟩ : ∃ z : Int32, x_6 + Int32.ofInt (1) = z := ⟨_, rfl⟩
            have hv_23 : v_23.toInt = x_6.toInt + (1) := by rw [← ev_23]; exact incE rfl (by decide) (by omega)
            refine lv_iinc (pc := 47) (v := v_23) (lv' := [(1, .int v_23), (0, .ref M)]) E.1 E.2.1 dX12_spoils_47 hl10 (k := 0) rfl ev_23 (by decide) rfl (fun ls hl24 => ?_)
            refine lv_goto (pc := 50) (tgt := 2) E.1 E.2.1 dX12_spoils_50 (by decide) ?_
            exact ih_8 v_23 g_7 _ _ _ ⟨(by show 0 ≤ v_23.toInt; omega), (by show v_23.toInt ≤ (mi 44).toInt; omega), hi_7_2, hi_7_3, hi_7_4, hi_7_5, hi_7_6⟩ (by omega) hw20 (lv_sub hl24 [0, 1] rfl)
          · skip
            have hc_22 := eqE (a := r_18.toInt) (b := v_21.toInt) rfl rfl c_22
            refine lv_aload_n (pc := 37) E.1 E.2.1 dX12_spoils_37 rfl (lv_at hl10 1 rfl) ?_
            refine x_get (pc := 38) (T := TX12) (N := 70) (ci := 12) (v := .ref (mr 1)) E hw20 inX12 0 1 q_1400 rfl rfl (by decide) rfl rfl dX12_spoils_38 ?_
            refine lv_bipush (pc := 41) (v := 56) E.1 E.2.1 dX12_spoils_41 (by decide +kernel) ?_
            refine lv_iload_n (pc := 43) E.1 E.2.1 dX12_spoils_43 rfl (lv_at hl10 0 rfl) ?_
            refine lv_iadd (pc := 44) E.1 E.2.1 dX12_spoils_44 ?_
            refine lv_topi (fun v_25 ev_25 => ?_)
            have hv_25 : v_25.toInt = 56 + x_6.toInt := by rw [ev_25]; exact addE (by decide +kernel) rfl (by omega)
            refine lv_iconst (pc := 45) (v := 1) E.1 E.2.1 dX12_spoils_45 (by decide +kernel) ?_
            refine x_iastG (pc := 46) (f := g_7) (wf := fun g => (MW cI cJ M mr mi (va_up mf 1 g) mg)) E hw20 1 rfl (inbE (a := v_25.toInt) rfl (by omega)) (fun _ => rfl) dX12_spoils_46 (fun g_26 H locs eg_26 hw27 => ?_)
            have ht_28 : (g_26 0).toInt = (g_7 0).toInt := by rw [eg_26, pk_un (by have q9 := idxI (x := v_25) (by omega); omega)]
            have ht_29 : (g_26 1).toInt = (g_7 1).toInt := by rw [eg_26, pk_un (by have q9 := idxI (x := v_25) (by omega); omega)]
            have ht_30 : (g_26 2).toInt = (g_7 2).toInt := by rw [eg_26, pk_un (by have q9 := idxI (x := v_25) (by omega); omega)]
            have ht_31 : (g_26 3).toInt = (g_7 3).toInt := by rw [eg_26, pk_un (by have q9 := idxI (x := v_25) (by omega); omega)]
            have ht_32 : (g_26 5).toInt = (g_7 5).toInt := by rw [eg_26, pk_un (by have q9 := idxI (x := v_25) (by omega); omega)]
            obtain ⟨v_33, ev_33⟩ : ∃ z : Int32, x_6 + Int32.ofInt (1) = z := ⟨_, rfl⟩
            have hv_33 : v_33.toInt = x_6.toInt + (1) := by rw [← ev_33]; exact incE rfl (by decide) (by omega)
            refine lv_iinc (pc := 47) (v := v_33) (lv' := [(1, .int v_33), (0, .ref M)]) E.1 E.2.1 dX12_spoils_47 hl10 (k := 0) rfl ev_33 (by decide) rfl (fun ls hl34 => ?_)
            refine lv_goto (pc := 50) (tgt := 2) E.1 E.2.1 dX12_spoils_50 (by decide) ?_
            exact ih_8 v_33 g_26 _ _ _ ⟨(by show 0 ≤ v_33.toInt; omega), (by show v_33.toInt ≤ (mi 44).toInt; omega), (by show (g_26 0).toInt = ((mf 1) 0).toInt; omega), (by show (g_26 1).toInt = ((mf 1) 1).toInt; omega), (by show (g_26 2).toInt = ((mf 1) 2).toInt; omega), (by show (g_26 3).toInt = ((mf 1) 3).toInt; omega), (by show (g_26 5).toInt = ((mf 1) 5).toInt; omega)⟩ (by omega) hw27 (lv_sub hl34 [0, 1] rfl)
  exact loop_5 (Int.toNat ((mi 44).toInt - 0) + 1) 0 (mf 1) _ _ _ ⟨(by show 0 ≤ (0 : Int32).toInt; have k_0 : (0 : Int32).toInt = 0 := (by decide +kernel); omega), (by show (0 : Int32).toInt ≤ (mi 44).toInt; have k_0 : (0 : Int32).toInt = 0 := (by decide +kernel); omega), rfl, rfl, rfl, rfl, rfl⟩ (by have k_0 : (0 : Int32).toInt = 0 := (by decide +kernel); omega) hw1 (lv_sub hl4 [0, 1] rfl)
