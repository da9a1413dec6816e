set_option maxHeartbeats 4000000 in
set_option maxRecDepth 100000 in
theorem t_add (l : Launch) (D : va_G) (cI cJ : ClassId) (sz : Nat) (mr : Nat → Nat) (mi : Nat → Int32) (mf : Nat → Nat → Int32) (mg : Nat → Nat → Int64) (z_stop : Int32) (z_nights : Int32) (h0 : 0 ≤ (mi 2).toInt) (h1 : (mi 2).toInt ≤ 157857660) (h2 : 0 ≤ z_nights.toInt ∧ z_nights.toInt ≤ 60) : Met l yX7_add (Cond.code yX7_add cX7_add 4 none :: GW) ({ frames := 1, cells := 0, slots := 0, locals := 40 } : Room) (va_Pc [.ref (mr 0), .int z_stop, .int z_nights] (PW D cI cJ sz (WZ_Round cI cJ mr mi mf mg) xT)) (va_Qv (fun (u : (Nat → Int32) × Int32) => (u.2.toInt = (mi 2).toInt + z_nights.toInt) ∧ ((∀ h : Int, STV (mf 1) (mi 2).toInt h → (-1 ≤ (z_stop : Int32).toInt ∧ (z_stop : Int32).toInt < h) → STV u.1 u.2.toInt h))) (fun u => QW D cI cJ (va_A (WZ_Round cI cJ mr mi mf mg) sz) ((fun (u : (Nat → Int32) × Int32) => (WZ_Round cI cJ mr (upd mi 2 u.2) (va_up mf 1 u.1) mg)) u)) (va_A (WZ_Round cI cJ mr mi mf mg) sz)) 0 0 (va_A (WZ_Round cI cJ mr mi mf mg) sz) := by
  refine mk_met (y := yX7_add) (bytes := cX7_add) (maxL := 4) (avs := [.ref (mr 0), .int z_stop, .int z_nights]) (WS := (WZ_Round cI cJ mr mi mf mg)) (Qf := fun A => va_Qv (fun (u : (Nat → Int32) × Int32) => (u.2.toInt = (mi 2).toInt + z_nights.toInt) ∧ ((∀ h : Int, STV (mf 1) (mi 2).toInt h → (-1 ≤ (z_stop : Int32).toInt ∧ (z_stop : Int32).toInt < h) → STV u.1 u.2.toInt h))) (fun u => QW D cI cJ A ((fun (u : (Nat → Int32) × Int32) => (WZ_Round cI cJ mr (upd mi 2 u.2) (va_up mf 1 u.1) mg)) u)) A) (by decide) (Nat.le_of_ble_eq_true rfl) ?_
  intro p e s m below meth c A ls E hr hlk hnm hX hw1 hl2
  have hl3 : lv_has ls 4 [(0, .ref (mr 0)), (1, .int z_stop), (2, .int z_nights)] := hl2
  refine lv_aload_n (pc := 0) E.1 E.2.1 dX7_add_0 rfl (lv_at hl3 0 rfl) ?_
  refine x_get (pc := 1) (T := TX7) (N := 5) (ci := 7) (v := .int (mi 2)) E hw1 inX7 0 1 q_421 rfl rfl (by decide) rfl rfl dX7_add_1 ?_
  refine lv_istore_n (pc := 4) (lv' := [(3, .int (mi 2)), (0, .ref (mr 0)), (1, .int z_stop), (2, .int z_nights)]) E.1 E.2.1 dX7_add_4 rfl hl3 (by decide) rfl (fun ls hl4 => ?_)
  have loop_5 : ∀ (k : Nat) (x_6 : Int32) (g_7 : Nat → Int32) (H : Heap) (locs : List Loc) (ls : Array Slot), ((mi 2).toInt ≤ x_6.toInt) ∧ (x_6.toInt ≤ (mi 2).toInt + z_nights.toInt) ∧ ((∀ h : Int, STV (mf 1) (mi 2).toInt h → (-1 ≤ z_stop.toInt ∧ z_stop.toInt < h) → STV g_7 x_6.toInt h)) → (mi 2).toInt + z_nights.toInt - x_6.toInt < (k : Int) → WD D A s.heap (WZ_Round cI cJ mr mi (va_up mf 1 g_7) mg) H locs → lv_has ls 4 [(3, .int x_6), (0, .ref (mr 0)), (1, .int z_stop), (2, .int z_nights)] → W p l e ({ frames := 1, cells := 0, slots := 0, locals := 40 } : Room) s m ([.ref (mr 0), .int z_stop, .int z_nights] : List Value).toArray below meth c H locs 0 0 (MQ below (va_Qv (fun (u : (Nat → Int32) × Int32) => (u.2.toInt = (mi 2).toInt + z_nights.toInt) ∧ ((∀ h : Int, STV (mf 1) (mi 2).toInt h → (-1 ≤ (z_stop : Int32).toInt ∧ (z_stop : Int32).toInt < h) → STV u.1 u.2.toInt h))) (fun u => QW D cI cJ A ((fun (u : (Nat → Int32) × Int32) => (WZ_Round cI cJ mr (upd mi 2 u.2) (va_up mf 1 u.1) mg)) u)) A) ([.ref (mr 0), .int z_stop, .int z_nights] : List Value).toArray s 0 0 A) (F0 m 5 ls []) := by
    intro k
    induction k with
    | zero =>
      intro x_6 g_7 _ _ _ hinv hm
      obtain ⟨hi_7_0, hi_7_1, hi_7_2⟩ := hinv
      exact absurd hm (by omega)
    | succ k ih_8 =>
      intro x_6 g_7 H locs ls hinv hm hw9 hl10
      obtain ⟨hi_7_0, hi_7_1, hi_7_2⟩ := hinv
      refine lv_iload_n (pc := 5) E.1 E.2.1 dX7_add_5 rfl (lv_at hl10 0 rfl) ?_
      refine lv_aload_n (pc := 6) E.1 E.2.1 dX7_add_6 rfl (lv_at hl10 1 rfl) ?_
      refine x_get (pc := 7) (T := TX7) (N := 5) (ci := 7) (v := .int (mi 2)) E hw9 inX7 0 1 q_421 rfl rfl (by decide) rfl rfl dX7_add_7 ?_
      refine lv_iload_n (pc := 10) E.1 E.2.1 dX7_add_10 rfl (lv_at hl10 3 rfl) ?_
      refine lv_iadd (pc := 11) E.1 E.2.1 dX7_add_11 ?_
      refine lv_topi (fun v_11 ev_11 => ?_)
      have hv_11 : v_11.toInt = (mi 2).toInt + z_nights.toInt := by rw [ev_11]; exact addE rfl rfl (by omega)
      refine lv_icmp_ge (pc := 12) (tgt := 35) E.1 E.2.1 dX7_add_12 (by decide) (fun c_12 => ?_) (fun c_12 => ?_)
      · skip
        have hc_12 := leE (a := v_11.toInt) (b := x_6.toInt) rfl rfl c_12
        refine lv_aload_n (pc := 35) E.1 E.2.1 dX7_add_35 rfl (lv_at hl10 1 rfl) ?_
        refine lv_dup (pc := 36) E.1 E.2.1 dX7_add_36 rfl ?_
        refine x_get (pc := 37) (T := TX7) (N := 5) (ci := 7) (v := .int (mi 2)) E hw9 inX7 0 1 q_421 rfl rfl (by decide) rfl rfl dX7_add_37 ?_
        refine lv_iload_n (pc := 40) E.1 E.2.1 dX7_add_40 rfl (lv_at hl10 3 rfl) ?_
        refine lv_iadd (pc := 41) E.1 E.2.1 dX7_add_41 ?_
        refine lv_topi (fun v_13 ev_13 => ?_)
        have hv_13 : v_13.toInt = (mi 2).toInt + z_nights.toInt := by rw [ev_13]; exact addE rfl rfl (by omega)
        refine x_put (pc := 42) (T := TX7) (N := 5) (ci := 7) (ws' := (WZ_Round cI cJ mr (upd mi 2 v_13) (va_up mf 1 g_7) mg)) E hw9 inX7 tyX7_ok nmX7 0 1 q_421 rfl rfl (by decide) rfl rfl rfl rfl (Nat.le_of_ble_eq_true rfl) rfl dX7_add_42 (fun H locs hw14 => ?_)
        exact em_v (w1 := (fun (u : (Nat → Int32) × Int32) => (WZ_Round cI cJ mr (upd mi 2 u.2) (va_up mf 1 u.1) mg))) E hr hlk (g_7, v_13) hw14 ⟨(by show v_13.toInt = (mi 2).toInt + z_nights.toInt; omega), (show (∀ h : Int, STV (mf 1) (mi 2).toInt h → (-1 ≤ (z_stop : Int32).toInt ∧ (z_stop : Int32).toInt < h) → STV g_7 v_13.toInt h) from (fun h q r => STV_out (hi_7_2 h q r) (by omega)))⟩ (Nat.le_of_ble_eq_true rfl) (Nat.le_of_ble_eq_true rfl) dX7_add_45
      · skip
        have hc_12 := nleE (a := v_11.toInt) (b := x_6.toInt) rfl rfl c_12
        refine lv_iload_n (pc := 15) E.1 E.2.1 dX7_add_15 rfl (lv_at hl10 0 rfl) ?_
        refine lv_sipush (pc := 16) (v := 200) E.1 E.2.1 dX7_add_16 (by decide +kernel) ?_
        refine lv_icmp_ge (pc := 19) (tgt := 35) E.1 E.2.1 dX7_add_19 (by decide) (fun c_15 => ?_) (fun c_15 => ?_)
        · skip
          have hc_15 := leE (a := 200) (b := x_6.toInt) (by decide +kernel) rfl c_15
          refine lv_aload_n (pc := 35) E.1 E.2.1 dX7_add_35 rfl (lv_at hl10 1 rfl) ?_
          refine lv_dup (pc := 36) E.1 E.2.1 dX7_add_36 rfl ?_
          refine x_get (pc := 37) (T := TX7) (N := 5) (ci := 7) (v := .int (mi 2)) E hw9 inX7 0 1 q_421 rfl rfl (by decide) rfl rfl dX7_add_37 ?_
          refine lv_iload_n (pc := 40) E.1 E.2.1 dX7_add_40 rfl (lv_at hl10 3 rfl) ?_
          refine lv_iadd (pc := 41) E.1 E.2.1 dX7_add_41 ?_
          refine lv_topi (fun v_16 ev_16 => ?_)
          have hv_16 : v_16.toInt = (mi 2).toInt + z_nights.toInt := by rw [ev_16]; exact addE rfl rfl (by omega)
          refine x_put (pc := 42) (T := TX7) (N := 5) (ci := 7) (ws' := (WZ_Round cI cJ mr (upd mi 2 v_16) (va_up mf 1 g_7) mg)) E hw9 inX7 tyX7_ok nmX7 0 1 q_421 rfl rfl (by decide) rfl rfl rfl rfl (Nat.le_of_ble_eq_true rfl) rfl dX7_add_42 (fun H locs hw17 => ?_)
          exact em_v (w1 := (fun (u : (Nat → Int32) × Int32) => (WZ_Round cI cJ mr (upd mi 2 u.2) (va_up mf 1 u.1) mg))) E hr hlk (g_7, v_16) hw17 ⟨(by show v_16.toInt = (mi 2).toInt + z_nights.toInt; omega), (show (∀ h : Int, STV (mf 1) (mi 2).toInt h → (-1 ≤ (z_stop : Int32).toInt ∧ (z_stop : Int32).toInt < h) → STV g_7 v_16.toInt h) from (fun h q r => STV_out (hi_7_2 h q r) (by omega)))⟩ (Nat.le_of_ble_eq_true rfl) (Nat.le_of_ble_eq_true rfl) dX7_add_45
        · skip
          have hc_15 := nleE (a := 200) (b := x_6.toInt) (by decide +kernel) rfl c_15
          refine lv_aload_n (pc := 22) E.1 E.2.1 dX7_add_22 rfl (lv_at hl10 1 rfl) ?_
          refine x_get (pc := 23) (T := TX7) (N := 5) (ci := 7) (v := .ref (mr 1)) E hw9 inX7 0 0 q_419 rfl rfl (by decide) rfl rfl dX7_add_23 ?_
          refine lv_iload_n (pc := 26) E.1 E.2.1 dX7_add_26 rfl (lv_at hl10 0 rfl) ?_
          refine lv_iload_n (pc := 27) E.1 E.2.1 dX7_add_27 rfl (lv_at hl10 2 rfl) ?_
          refine x_iastG (pc := 28) (f := g_7) (wf := fun g => (WZ_Round cI cJ mr mi (va_up mf 1 g) mg)) E hw9 1 rfl (inbE (a := x_6.toInt) rfl (by omega)) (fun _ => rfl) dX7_add_28 (fun g_18 H locs eg_18 hw19 => ?_)
          obtain ⟨v_20, ev_20⟩ : ∃ z : Int32, x_6 + Int32.ofInt (1) = z := ⟨_, rfl⟩
          have hv_20 : v_20.toInt = x_6.toInt + (1) := by rw [← ev_20]; exact incE rfl (by decide) (by omega)
          refine lv_iinc (pc := 29) (v := v_20) (lv' := [(3, .int v_20), (0, .ref (mr 0)), (1, .int z_stop), (2, .int z_nights)]) E.1 E.2.1 dX7_add_29 hl10 (k := 0) rfl ev_20 (by decide) rfl (fun ls hl21 => ?_)
          refine lv_goto (pc := 32) (tgt := 5) E.1 E.2.1 dX7_add_32 (by decide) ?_
          exact ih_8 v_20 g_18 _ _ _ ⟨(by show (mi 2).toInt ≤ v_20.toInt; omega), (by show v_20.toInt ≤ (mi 2).toInt + z_nights.toInt; omega), (fun h q r => STV_add (hi_7_2 h q r) eg_18 (by omega) r (by omega))⟩ (by omega) hw19 (lv_sub hl21 [0, 1, 2, 3] rfl)
  exact loop_5 (Int.toNat ((mi 2).toInt + z_nights.toInt - (mi 2).toInt) + 1) (mi 2) (mf 1) _ _ _ ⟨(by show (mi 2).toInt ≤ (mi 2).toInt; omega), (by show (mi 2).toInt ≤ (mi 2).toInt + z_nights.toInt; omega), (fun h q _ => q)⟩ (by omega) hw1 (lv_sub hl4 [0, 1, 2, 3] rfl)
