set_option maxHeartbeats 4000000 in
set_option maxRecDepth 100000 in
theorem t_countPairs0K (l : Launch) (D : va_G) (cI cJ : ClassId) (sz : Nat) (mr : Nat → Nat) (mi : Nat → Int32) (mf : Nat → Nat → Int32) (mg : Nat → Nat → Int64)  (h0 : 0 ≤ (mi 6).toInt ∧ (mi 6).toInt ≤ 10) (x_wf : WFF (mi 6).toInt (mf 5)) : Met l yX1_countPairs (Cond.code yX1_countPairs cX1_countPairs 3 none :: GW) ({ frames := 3, cells := 1, slots := 1024, locals := 86 } : Room) (va_Pc [.ref (mr 0)] (PW D cI cJ sz (WZ_Hp0 cI cJ mr mi mf mg) xT)) (va_Qv (fun (u : Bool × (Nat → Nat) × (Nat → Int32) × (Nat → Nat → Int32) × (Nat → Nat → Int64)) => (u.1 = true) ∧ (0 ≤ (u.2.2.1 6).toInt) ∧ ((u.2.2.1 6).toInt ≤ 10) ∧ ((u.2.2.1 6).toInt = (mi 6).toInt) ∧ ((Eq (mf 1)) (u.2.2.2.1 1)) ∧ ((Eq (mf 5)) (u.2.2.2.1 5)) ∧ (TBL (FR (mi 6).toInt (mf 5)) (u.2.2.2.1 9) ((2 ^ (mi 6).toInt.toNat : Nat) : Int)) ∧ (∀ k : Nat, k < 9 → u.2.1 k = mr k)) (fun u => QW D cI cJ (va_A (WZ_Hp0 cI cJ mr mi mf mg) sz) ((fun (u : Bool × (Nat → Nat) × (Nat → Int32) × (Nat → Nat → Int32) × (Nat → Nat → Int64)) => cond u.1 (WZ_Houses1 cI cJ u.2.1 u.2.2.1 u.2.2.2.1 u.2.2.2.2) (WZ_Hp0 cI cJ mr u.2.2.1 u.2.2.2.1 u.2.2.2.2)) u)) (va_A (WZ_Hp0 cI cJ mr mi mf mg) sz)) 1 1024 (va_A (WZ_Hp0 cI cJ mr mi mf mg) sz) := by
  refine mk_met (y := yX1_countPairs) (bytes := cX1_countPairs) (maxL := 3) (avs := [.ref (mr 0)]) (WS := (WZ_Hp0 cI cJ mr mi mf mg)) (Qf := fun A => va_Qv (fun (u : Bool × (Nat → Nat) × (Nat → Int32) × (Nat → Nat → Int32) × (Nat → Nat → Int64)) => (u.1 = true) ∧ (0 ≤ (u.2.2.1 6).toInt) ∧ ((u.2.2.1 6).toInt ≤ 10) ∧ ((u.2.2.1 6).toInt = (mi 6).toInt) ∧ ((Eq (mf 1)) (u.2.2.2.1 1)) ∧ ((Eq (mf 5)) (u.2.2.2.1 5)) ∧ (TBL (FR (mi 6).toInt (mf 5)) (u.2.2.2.1 9) ((2 ^ (mi 6).toInt.toNat : Nat) : Int)) ∧ (∀ k : Nat, k < 9 → u.2.1 k = mr k)) (fun u => QW D cI cJ A ((fun (u : Bool × (Nat → Nat) × (Nat → Int32) × (Nat → Nat → Int32) × (Nat → Nat → Int64)) => cond u.1 (WZ_Houses1 cI cJ u.2.1 u.2.2.1 u.2.2.2.1 u.2.2.2.2) (WZ_Hp0 cI cJ mr u.2.2.1 u.2.2.2.1 u.2.2.2.2)) u)) A) (by decide) (Nat.le_of_ble_eq_true rfl) ?_
  intro p e s m below meth c A ls E hr hlk hnm hX hw1 hl2
  have hl3 : lv_has ls 3 [(0, .ref (mr 0))] := hl2
  refine lv_aload_n (pc := 0) E.1 E.2.1 dX1_countPairs_0 rfl (lv_at hl3 0 rfl) ?_
  refine x_get (pc := 1) (T := TX1) (N := 9) (ci := 1) (v := .null) E hw1 inX1 0 8 q_288 rfl rfl (by decide) rfl rfl dX1_countPairs_1 ?_
  refine lv_ifnonnullN (pc := 4) E.1 E.2.1 dX1_countPairs_4 ?_
  refine lv_aload_n (pc := 7) E.1 E.2.1 dX1_countPairs_7 rfl (lv_at hl3 0 rfl) ?_
  refine lv_sipush (pc := 8) (v := 1024) E.1 E.2.1 dX1_countPairs_8 (by decide +kernel) ?_
  refine x_newI (pc := 11) (N' := 1024) (k1 := 1) (n1 := 1024) E hw1 q_259 (by decide +kernel) (by decide +kernel) (Nat.le_of_ble_eq_true rfl) (Nat.le_of_ble_eq_true rfl) (Nat.le_of_ble_eq_true rfl) (Nat.le_of_ble_eq_true rfl) (Nat.le_of_ble_eq_true rfl) dX1_countPairs_11 (fun q_4 H hw5 => ?_)
  refine x_put (pc := 13) (T := TX1) (N := 9) (ci := 1) E hw5 inX1 tyX1_ok nmX1 0 8 q_288 rfl rfl (by decide) rfl rfl rfl rfl (Nat.le_of_ble_eq_true rfl) rfl dX1_countPairs_13 (fun H locs hw6 => ?_)
  have hw7 : WD D A s.heap (WZ_Houses1 cI cJ (va_up mr 9 q_4) mi (va_up mf 9 (fun _ => 0)) mg) H locs := hw6.sub [0, 1, 2, 3, 4, 5, 6, 7, 8] rfl (by decide)
  refine lv_iconst (pc := 16) (v := 0) E.1 E.2.1 dX1_countPairs_16 (by decide +kernel) ?_
  refine lv_istore_n (pc := 17) (lv' := [(1, .int 0), (0, .ref (mr 0))]) E.1 E.2.1 dX1_countPairs_17 rfl hl3 (by decide) rfl (fun ls hl8 => ?_)
  have loop_9 : ∀ (k : Nat) (x_10 : Int32) (g_11 : Nat → Int32) (H : Heap) (locs : List Loc) (ls : Array Slot), (0 ≤ x_10.toInt) ∧ (x_10.toInt ≤ (mi 6).toInt) ∧ (TBL (FR (mi 6).toInt (mf 5)) g_11 ((2 ^ x_10.toInt.toNat : Nat) : Int)) → (mi 6).toInt - x_10.toInt < (k : Int) → WD D A s.heap (WZ_Houses1 cI cJ (va_up mr 9 q_4) mi (va_up mf 9 g_11) mg) H locs → lv_has ls 3 [(1, .int x_10), (0, .ref (mr 0))] → W p l e ({ frames := 3, cells := 1, slots := 1024, locals := 86 } : Room) s m ([.ref (mr 0)] : List Value).toArray below meth c H locs 1 1024 (MQ below (va_Qv (fun (u : Bool × (Nat → Nat) × (Nat → Int32) × (Nat → Nat → Int32) × (Nat → Nat → Int64)) => (u.1 = true) ∧ (0 ≤ (u.2.2.1 6).toInt) ∧ ((u.2.2.1 6).toInt ≤ 10) ∧ ((u.2.2.1 6).toInt = (mi 6).toInt) ∧ ((Eq (mf 1)) (u.2.2.2.1 1)) ∧ ((Eq (mf 5)) (u.2.2.2.1 5)) ∧ (TBL (FR (mi 6).toInt (mf 5)) (u.2.2.2.1 9) ((2 ^ (mi 6).toInt.toNat : Nat) : Int)) ∧ (∀ k : Nat, k < 9 → u.2.1 k = mr k)) (fun u => QW D cI cJ A ((fun (u : Bool × (Nat → Nat) × (Nat → Int32) × (Nat → Nat → Int32) × (Nat → Nat → Int64)) => cond u.1 (WZ_Houses1 cI cJ u.2.1 u.2.2.1 u.2.2.2.1 u.2.2.2.2) (WZ_Hp0 cI cJ mr u.2.2.1 u.2.2.2.1 u.2.2.2.2)) u)) A) ([.ref (mr 0)] : List Value).toArray s 1 1024 A) (F0 m 18 ls []) := by
    intro k
    induction k with
    | zero =>
      intro x_10 g_11 _ _ _ hinv hm
      obtain ⟨hi_11_0, hi_11_1, hi_11_2⟩ := hinv
      exact absurd hm (by omega)
    | succ k ih_12 =>
      intro x_10 g_11 H locs ls hinv hm hw13 hl14
      obtain ⟨hi_11_0, hi_11_1, hi_11_2⟩ := hinv
      refine lv_iload_n (pc := 18) E.1 E.2.1 dX1_countPairs_18 rfl (lv_at hl14 0 rfl) ?_
      refine lv_aload_n (pc := 19) E.1 E.2.1 dX1_countPairs_19 rfl (lv_at hl14 1 rfl) ?_
      refine x_get (pc := 20) (T := TX1) (N := 9) (ci := 1) (v := .int (mi 6)) E hw13 inX1 0 5 q_281 rfl rfl (by decide) rfl rfl dX1_countPairs_20 ?_
      refine lv_icmp_ge (pc := 23) (tgt := 63) E.1 E.2.1 dX1_countPairs_23 (by decide) (fun c_15 => ?_) (fun c_15 => ?_)
      · skip
        have hc_15 := leE (a := (mi 6).toInt) (b := x_10.toInt) rfl rfl c_15
        exact em_v (w1 := (fun (u : Bool × (Nat → Nat) × (Nat → Int32) × (Nat → Nat → Int32) × (Nat → Nat → Int64)) => cond u.1 (WZ_Houses1 cI cJ u.2.1 u.2.2.1 u.2.2.2.1 u.2.2.2.2) (WZ_Hp0 cI cJ mr u.2.2.1 u.2.2.2.1 u.2.2.2.2))) E hr hlk (true, (va_up mr 9 q_4), mi, (va_up mf 9 g_11), mg) hw13 ⟨rfl, h0.1, h0.2, rfl, rfl, rfl, (show TBL (FR (mi 6).toInt (mf 5)) g_11 ((2 ^ (mi 6).toInt.toNat : Nat) : Int) from (cp_e hi_11_2 (by omega))), (fun k hk => by show (va_up mr 9 q_4) k = mr k; simp only [va_up]; repeat rw [if_neg (by omega)])⟩ (Nat.le_of_ble_eq_true rfl) (Nat.le_of_ble_eq_true rfl) dX1_countPairs_63
      · skip
        have hc_15 := nleE (a := (mi 6).toInt) (b := x_10.toInt) rfl rfl c_15
        refine lv_iconst (pc := 26) (v := 0) E.1 E.2.1 dX1_countPairs_26 (by decide +kernel) ?_
        refine lv_istore_n (pc := 27) (lv' := [(2, .int 0), (1, .int x_10), (0, .ref (mr 0))]) E.1 E.2.1 dX1_countPairs_27 rfl hl14 (by decide) rfl (fun ls hl16 => ?_)
        have loop_17 : ∀ (k : Nat) (x_18 : Int32) (g_19 : Nat → Int32) (H : Heap) (locs : List Loc) (ls : Array Slot), (0 ≤ x_18.toInt) ∧ (x_18.toInt ≤ 1024) ∧ (TBL (FR (mi 6).toInt (mf 5)) g_19 ((2 ^ x_10.toInt.toNat + x_18.toInt.toNat : Nat) : Int)) → 1024 - x_18.toInt < (k : Int) → WD D A s.heap (WZ_Houses1 cI cJ (va_up mr 9 q_4) mi (va_up mf 9 g_19) mg) H locs → lv_has ls 3 [(2, .int x_18), (1, .int x_10), (0, .ref (mr 0))] → W p l e ({ frames := 3, cells := 1, slots := 1024, locals := 86 } : Room) s m ([.ref (mr 0)] : List Value).toArray below meth c H locs 1 1024 (MQ below (va_Qv (fun (u : Bool × (Nat → Nat) × (Nat → Int32) × (Nat → Nat → Int32) × (Nat → Nat → Int64)) => (u.1 = true) ∧ (0 ≤ (u.2.2.1 6).toInt) ∧ ((u.2.2.1 6).toInt ≤ 10) ∧ ((u.2.2.1 6).toInt = (mi 6).toInt) ∧ ((Eq (mf 1)) (u.2.2.2.1 1)) ∧ ((Eq (mf 5)) (u.2.2.2.1 5)) ∧ (TBL (FR (mi 6).toInt (mf 5)) (u.2.2.2.1 9) ((2 ^ (mi 6).toInt.toNat : Nat) : Int)) ∧ (∀ k : Nat, k < 9 → u.2.1 k = mr k)) (fun u => QW D cI cJ A ((fun (u : Bool × (Nat → Nat) × (Nat → Int32) × (Nat → Nat → Int32) × (Nat → Nat → Int64)) => cond u.1 (WZ_Houses1 cI cJ u.2.1 u.2.2.1 u.2.2.2.1 u.2.2.2.2) (WZ_Hp0 cI cJ mr u.2.2.1 u.2.2.2.1 u.2.2.2.2)) u)) A) ([.ref (mr 0)] : List Value).toArray s 1 1024 A) (F0 m 28 ls []) := by
          intro k
          induction k with
          | zero =>
            intro x_18 g_19 _ _ _ hinv hm
            obtain ⟨hi_19_0, hi_19_1, hi_19_2⟩ := hinv
            exact absurd hm (by omega)
          | succ k ih_20 =>
            intro x_18 g_19 H locs ls hinv hm hw21 hl22
            obtain ⟨hi_19_0, hi_19_1, hi_19_2⟩ := hinv
            refine lv_iload_n (pc := 28) E.1 E.2.1 dX1_countPairs_28 rfl (lv_at hl22 0 rfl) ?_
            refine lv_iconst (pc := 29) (v := 1) E.1 E.2.1 dX1_countPairs_29 (by decide +kernel) ?_
            refine lv_iload_n (pc := 30) E.1 E.2.1 dX1_countPairs_30 rfl (lv_at hl22 1 rfl) ?_
            refine lv_ishl (pc := 31) E.1 E.2.1 dX1_countPairs_31 ?_
            refine lv_topi (fun v_23 ev_23 => ?_)
            have hb1v_23 : 1 ≤ v_23.toInt ∧ v_23.toInt ≤ 512 := by rw [ev_23]; exact shl9 (by omega)
            refine lv_icmp_ge (pc := 32) (tgt := 57) E.1 E.2.1 dX1_countPairs_32 (by decide) (fun c_24 => ?_) (fun c_24 => ?_)
            · skip
              have hc_24 := leE (a := v_23.toInt) (b := x_18.toInt) rfl rfl c_24
              obtain ⟨v_25, ev_25⟩ : ∃ z : Int32, x_10 + Int32.ofInt (1) = z := ⟨_, rfl⟩
              have hv_25 : v_25.toInt = x_10.toInt + (1) := by rw [← ev_25]; exact incE rfl (by decide) (by omega)
              refine lv_iinc (pc := 57) (v := v_25) (lv' := [(1, .int v_25), (2, .int x_18), (0, .ref (mr 0))]) E.1 E.2.1 dX1_countPairs_57 hl22 (k := 1) rfl ev_25 (by decide) rfl (fun ls hl26 => ?_)
              refine lv_goto (pc := 60) (tgt := 18) E.1 E.2.1 dX1_countPairs_60 (by decide) ?_
              exact ih_12 v_25 g_19 _ _ _ ⟨(by show 0 ≤ v_25.toInt; omega), (by show v_25.toInt ≤ (mi 6).toInt; omega), (cp_nx hi_19_2 ev_23 (by omega) (by omega) (by omega))⟩ (by omega) hw21 (lv_sub hl26 [0, 2] rfl)
            · skip
              have hc_24 := nleE (a := v_23.toInt) (b := x_18.toInt) rfl rfl c_24
              refine lv_aload_n (pc := 35) E.1 E.2.1 dX1_countPairs_35 rfl (lv_at hl22 2 rfl) ?_
              refine x_get (pc := 36) (T := TX1) (N := 9) (ci := 1) (v := .ref q_4) E hw21 inX1 0 8 q_288 rfl rfl (by decide) rfl rfl dX1_countPairs_36 ?_
              refine lv_iload_n (pc := 39) E.1 E.2.1 dX1_countPairs_39 rfl (lv_at hl22 0 rfl) ?_
              refine lv_iconst (pc := 40) (v := 1) E.1 E.2.1 dX1_countPairs_40 (by decide +kernel) ?_
              refine lv_iload_n (pc := 41) E.1 E.2.1 dX1_countPairs_41 rfl (lv_at hl22 1 rfl) ?_
              refine lv_ishl (pc := 42) E.1 E.2.1 dX1_countPairs_42 ?_
              refine lv_topi (fun v_27 ev_27 => ?_)
              have hb1v_27 : 1 ≤ v_27.toInt ∧ v_27.toInt ≤ 512 := by rw [ev_27]; exact shl9 (by omega)
              refine lv_ior (pc := 43) E.1 E.2.1 dX1_countPairs_43 ?_
              refine lv_topi (fun v_28 ev_28 => ?_)
              have hb1v_28 : 0 ≤ v_28.toInt ∧ v_28.toInt ≤ 1023 := by rw [ev_28]; exact or10 (by omega) (by omega)
              refine lv_aload_n (pc := 44) E.1 E.2.1 dX1_countPairs_44 rfl (lv_at hl22 2 rfl) ?_
              refine lv_iload_n (pc := 45) E.1 E.2.1 dX1_countPairs_45 rfl (lv_at hl22 1 rfl) ?_
              refine lv_iload_n (pc := 46) E.1 E.2.1 dX1_countPairs_46 rfl (lv_at hl22 0 rfl) ?_
              refine ck_i (pc := 47) (ws' := (fun (u : Unit) => (WZ_Houses1 cI cJ (va_up mr 9 q_4) mi (va_up mf 9 g_19) mg))) [true, true, true, true, true, true, true, true, true] hw21 rfl (fun hC_ => (rn_V (As := [.int x_10, .int x_18]) (rest := [.int v_28, .ref q_4]) E hw21 (t_mostPairsK l D cI cJ _ (va_up mr 9 q_4) mi (va_up mf 9 g_19) mg x_10 x_18 h0 hi_11_0 (by show x_10.toInt + 1 ≤ (mi 6).toInt; omega) (by show 0 ≤ x_18.toInt ∧ x_18.toInt ≤ 1023; omega) (show WFF (mi 6).toInt (mf 5) from x_wf) (show TBL (FR (mi 6).toInt (mf 5)) g_19 ((2 ^ x_10.toInt.toNat + x_18.toInt.toNat : Nat) : Int) from hi_19_2) (show x_18.toInt.toNat < 2 ^ x_10.toInt.toNat from (by have q := sb_shl ev_23 (by omega); omega))) (gdV q_1272 q_1274 q_41 q_154 q_1275) hdV_X1_mostPairs ⟨rfl, rfl⟩ ⟨(Nat.le_of_ble_eq_true rfl), (Nat.le_of_ble_eq_true rfl)⟩ ⟨(Nat.le_of_ble_eq_true rfl), (Nat.le_of_ble_eq_true rfl)⟩ xT_b xT_at 0 1 rfl rfl rfl _ hC_ (nd_T _ 0) rfl hl22.1 rfl (Nat.le_of_ble_eq_true rfl) dX1_countPairs_47)) rfl (fun _ => rfl) (fun _ => rfl) (fun r_30 u_29 H1 locs hp hw31 => ?_)
              generalize H1 = H at hw31 ⊢
              have hw32 : WD D A s.heap (WZ_Houses1 cI cJ (va_up mr 9 q_4) mi (va_up mf 9 g_19) mg) H locs := hw31
              have hp_33 := hp
              have hp_33 : MXI (FR (mi 6).toInt (mf 5)) (2 ^ x_10.toInt.toNat + x_18.toInt.toNat) (r_30 : Int32).toInt := hp_33
              refine x_iastG (pc := 50) (f := g_19) (wf := fun g => (WZ_Houses1 cI cJ (va_up mr 9 q_4) mi (va_up mf 9 g) mg)) E hw32 8 rfl (inbE (a := v_28.toInt) rfl (by omega)) (fun _ => rfl) dX1_countPairs_50 (fun g_34 H locs eg_34 hw35 => ?_)
              obtain ⟨v_36, ev_36⟩ : ∃ z : Int32, x_18 + Int32.ofInt (1) = z := ⟨_, rfl⟩
              have hv_36 : v_36.toInt = x_18.toInt + (1) := by rw [← ev_36]; exact incE rfl (by decide) (by omega)
              refine lv_iinc (pc := 51) (v := v_36) (lv' := [(2, .int v_36), (1, .int x_10), (0, .ref (mr 0))]) E.1 E.2.1 dX1_countPairs_51 hl22 (k := 0) rfl ev_36 (by decide) rfl (fun ls hl37 => ?_)
              refine lv_goto (pc := 54) (tgt := 28) E.1 E.2.1 dX1_countPairs_54 (by decide) ?_
              exact ih_20 v_36 g_34 _ _ _ ⟨(by show 0 ≤ v_36.toInt; omega), (by show v_36.toInt ≤ 1024; omega), (cp_st hi_19_2 hp_33 ev_27 ev_28 eg_34 (by omega) (by omega) (by have q := sb_shl ev_23 (by omega); have q2 := sb_shl ev_27 (by omega); omega) (by omega))⟩ (by omega) hw35 (lv_sub hl37 [0, 1, 2] rfl)
        exact loop_17 (Int.toNat (1024 - 0) + 1) 0 g_11 _ _ _ ⟨(by show 0 ≤ (0 : Int32).toInt; have k_0 : (0 : Int32).toInt = 0 := (by decide +kernel); omega), (by show (0 : Int32).toInt ≤ 1024; have k_0 : (0 : Int32).toInt = 0 := (by decide +kernel); omega), (cp_in hi_11_2 (by decide +kernel))⟩ (by have k_0 : (0 : Int32).toInt = 0 := (by decide +kernel); omega) hw13 (lv_sub hl16 [0, 1, 2] rfl)
  exact loop_9 (Int.toNat ((mi 6).toInt - 0) + 1) 0 (fun _ => 0) _ _ _ ⟨(by show 0 ≤ (0 : Int32).toInt; have k_0 : (0 : Int32).toInt = 0 := (by decide +kernel); omega), (by show (0 : Int32).toInt ≤ (mi 6).toInt; have k_0 : (0 : Int32).toInt = 0 := (by decide +kernel); omega), (cp_z (by decide +kernel))⟩ (by have k_0 : (0 : Int32).toInt = 0 := (by decide +kernel); omega) hw7 (lv_sub hl8 [0, 1] rfl)
set_option maxHeartbeats 4000000 in
set_option maxRecDepth 100000 in
theorem t_pairUp0K (l : Launch) (D : va_G) (cI cJ : ClassId) (sz : Nat) (mr : Nat → Nat) (mi : Nat → Int32) (mf : Nat → Nat → Int32) (mg : Nat → Nat → Int64)  (h0 : 0 ≤ (mi 6).toInt ∧ (mi 6).toInt ≤ 10) (x_wf : WFF (mi 6).toInt (mf 5)) : Met l yX1_pairUp (Cond.code yX1_pairUp cX1_pairUp 4 (some .int) :: GW) ({ frames := 4, cells := 1, slots := 1024, locals := 108 } : Room) (va_Pc [.ref (mr 0)] (PW D cI cJ sz (WZ_Hp0 cI cJ mr mi mf mg) xT)) (va_Qi (fun (r : Int32) (u : Bool × (Nat → Nat) × (Nat → Int32) × (Nat → Nat → Int32) × (Nat → Nat → Int64)) => (u.1 = true) ∧ (0 ≤ (u.2.2.1 6).toInt) ∧ ((u.2.2.1 6).toInt ≤ 10) ∧ ((u.2.2.1 6).toInt = (mi 6).toInt) ∧ ((Eq (mf 1)) (u.2.2.2.1 1)) ∧ ((Eq (mf 5)) (u.2.2.2.1 5)) ∧ (((r : Int32).toInt = mvl (FR (mi 6).toInt (mf 5)) (2 ^ (mi 6).toInt.toNat - 1) ∧ ∀ x : Nat, (x : Int) < (mi 6).toInt → ((u.2.2.2.1 8) x).toInt = prr (FR (mi 6).toInt (mf 5)) (mi 6).toInt.toNat x (mi 6).toInt.toNat (2 ^ (mi 6).toInt.toNat - 1))) ∧ (∀ k : Nat, k < 9 → u.2.1 k = mr k)) (fun u => QW D cI cJ (va_A (WZ_Hp0 cI cJ mr mi mf mg) sz) ((fun (u : Bool × (Nat → Nat) × (Nat → Int32) × (Nat → Nat → Int32) × (Nat → Nat → Int64)) => cond u.1 (WZ_Houses1 cI cJ u.2.1 u.2.2.1 u.2.2.2.1 u.2.2.2.2) (WZ_Hp0 cI cJ mr u.2.2.1 u.2.2.2.1 u.2.2.2.2)) u)) (va_A (WZ_Hp0 cI cJ mr mi mf mg) sz)) 1 1024 (va_A (WZ_Hp0 cI cJ mr mi mf mg) sz) := by
  refine mk_met (y := yX1_pairUp) (bytes := cX1_pairUp) (maxL := 4) (avs := [.ref (mr 0)]) (WS := (WZ_Hp0 cI cJ mr mi mf mg)) (Qf := fun A => va_Qi (fun (r : Int32) (u : Bool × (Nat → Nat) × (Nat → Int32) × (Nat → Nat → Int32) × (Nat → Nat → Int64)) => (u.1 = true) ∧ (0 ≤ (u.2.2.1 6).toInt) ∧ ((u.2.2.1 6).toInt ≤ 10) ∧ ((u.2.2.1 6).toInt = (mi 6).toInt) ∧ ((Eq (mf 1)) (u.2.2.2.1 1)) ∧ ((Eq (mf 5)) (u.2.2.2.1 5)) ∧ (((r : Int32).toInt = mvl (FR (mi 6).toInt (mf 5)) (2 ^ (mi 6).toInt.toNat - 1) ∧ ∀ x : Nat, (x : Int) < (mi 6).toInt → ((u.2.2.2.1 8) x).toInt = prr (FR (mi 6).toInt (mf 5)) (mi 6).toInt.toNat x (mi 6).toInt.toNat (2 ^ (mi 6).toInt.toNat - 1))) ∧ (∀ k : Nat, k < 9 → u.2.1 k = mr k)) (fun u => QW D cI cJ A ((fun (u : Bool × (Nat → Nat) × (Nat → Int32) × (Nat → Nat → Int32) × (Nat → Nat → Int64)) => cond u.1 (WZ_Houses1 cI cJ u.2.1 u.2.2.1 u.2.2.2.1 u.2.2.2.2) (WZ_Hp0 cI cJ mr u.2.2.1 u.2.2.2.1 u.2.2.2.2)) u)) A) (by decide) (Nat.le_of_ble_eq_true rfl) ?_
  intro p e s m below meth c A ls E hr hlk hnm hX hw1 hl2
  have hl3 : lv_has ls 4 [(0, .ref (mr 0))] := hl2
  refine lv_aload_n (pc := 0) E.1 E.2.1 dX1_pairUp_0 rfl (lv_at hl3 0 rfl) ?_
  refine cl_v (pc := 1) (k1 := 1) (n1 := 1024) (wr := restW (WZ_Hp0 cI cJ mr mi mf mg) []) hw1 [0, 1, 2, 3, 4, 5, 6, 7] [] rfl rfl (by decide) (by decide) (Nat.le_of_ble_eq_true rfl) (Nat.le_of_ble_eq_true rfl) (rn_V (As := []) (rest := []) E hw1 (t_countPairs0K l D cI cJ _ mr mi mf mg h0 (show WFF (mi 6).toInt (mf 5) from x_wf)) (gdV q_1268 q_1270 q_40 q_154 q_1271) hdV_X1_countPairs ⟨rfl, rfl⟩ ⟨(Nat.le_of_ble_eq_true rfl), (Nat.le_of_ble_eq_true rfl)⟩ ⟨(Nat.le_of_ble_eq_true rfl), (Nat.le_of_ble_eq_true rfl)⟩ xT_b xT_at 0 1 rfl rfl rfl [0, 1, 2, 3, 4, 5, 6, 7] rfl (by decide) rfl hl3.1 rfl (Nat.le_of_ble_eq_true rfl) dX1_pairUp_1) (fun u_4 H1 locs hp hw6 => ?_)
  generalize H1 = H at hw6 ⊢
  obtain ⟨b_7, k_8, Mi_9, Mf_10, Mg_11⟩ := u_4
  obtain ⟨hp_12, hp_13, hp_14, hp_15, hp_16, hp_17, hp_18, hp_19⟩ := hp
  obtain rfl : b_7 = true := hp_12
  have hw20 := hw6
  have ek0_k_8 : k_8 0 = mr 0 := hp_19 0 (by decide)
  have ek1_k_8 : k_8 1 = mr 1 := hp_19 1 (by decide)
  have ek2_k_8 : k_8 2 = mr 2 := hp_19 2 (by decide)
  have ek3_k_8 : k_8 3 = mr 3 := hp_19 3 (by decide)
  have ek4_k_8 : k_8 4 = mr 4 := hp_19 4 (by decide)
  have ek5_k_8 : k_8 5 = mr 5 := hp_19 5 (by decide)
  have ek7_k_8 : k_8 7 = mr 7 := hp_19 7 (by decide)
  have ek8_k_8 : k_8 8 = mr 8 := hp_19 8 (by decide)
  simp only [cond_true, WZ_Houses1, ek0_k_8, ek1_k_8, ek2_k_8, ek3_k_8, ek4_k_8, ek5_k_8, ek7_k_8, ek8_k_8] at hw20
  have hw21 : WD D A s.heap (WZ_Houses1 cI cJ (va_up mr 9 (k_8 9)) (upd mi 6 (Mi_9 6)) (va_up (va_up (va_up (va_up (va_up (va_up (va_up (va_up mf 1 (Mf_10 1)) 2 (Mf_10 2)) 3 (Mf_10 3)) 4 (Mf_10 4)) 5 (Mf_10 5)) 7 (Mf_10 7)) 8 (Mf_10 8)) 9 (Mf_10 9)) mg) H locs := hw20.sub [0, 1, 2, 3, 4, 5, 6, 7, 8] rfl (by decide)
  have hp_13 : 0 ≤ (Mi_9 6).toInt := hp_13
  have hp_14 : (Mi_9 6).toInt ≤ 10 := hp_14
  have hp_15 : (Mi_9 6).toInt = (mi 6).toInt := hp_15
  have hp_18 : TBL (FR (mi 6).toInt (mf 5)) (Mf_10 9) ((2 ^ (mi 6).toInt.toNat : Nat) : Int) := hp_18
  have hgc : (Mi_9 6) = mi 6 := Int32.toInt_inj.mp (by omega)
  have hgf : (Mf_10 5) = mf 5 := hp_17.symm
  refine lv_aload_n (pc := 4) E.1 E.2.1 dX1_pairUp_4 rfl (lv_at hl3 0 rfl) ?_
  refine ck_i (pc := 5) (ws' := (fun (u : Unit) => (WZ_Houses1 cI cJ (va_up mr 9 (k_8 9)) (upd mi 6 (Mi_9 6)) (va_up (va_up (va_up (va_up (va_up (va_up (va_up (va_up mf 1 (Mf_10 1)) 2 (Mf_10 2)) 3 (Mf_10 3)) 4 (Mf_10 4)) 5 (Mf_10 5)) 7 (Mf_10 7)) 8 (Mf_10 8)) 9 (Mf_10 9)) mg))) [true, true, true, true, true, true, true, true, true] hw21 rfl (fun hC_ => (rn_V (As := []) (rest := []) E hw21 (t_all1K l D cI cJ _ (va_up mr 9 (k_8 9)) (upd mi 6 (Mi_9 6)) (va_up (va_up (va_up (va_up (va_up (va_up (va_up (va_up mf 1 (Mf_10 1)) 2 (Mf_10 2)) 3 (Mf_10 3)) 4 (Mf_10 4)) 5 (Mf_10 5)) 7 (Mf_10 7)) 8 (Mf_10 8)) 9 (Mf_10 9)) mg (by show 0 ≤ (Mi_9 6).toInt ∧ (Mi_9 6).toInt ≤ 10; omega)) (gdV q_1280 q_1281 q_1282 q_154 q_1283) hdV_X1_all ⟨rfl, rfl⟩ ⟨(Nat.le_of_ble_eq_true rfl), (Nat.le_of_ble_eq_true rfl)⟩ ⟨(Nat.le_of_ble_eq_true rfl), (Nat.le_of_ble_eq_true rfl)⟩ xT_b xT_at 0 1 rfl rfl rfl _ hC_ (nd_T _ 0) rfl hl3.1 rfl (Nat.le_of_ble_eq_true rfl) dX1_pairUp_5)) rfl (fun _ => rfl) (fun _ => rfl) (fun r_23 u_22 H1 locs hp hw24 => ?_)
  generalize H1 = H at hw24 ⊢
  have hw25 : WD D A s.heap (WZ_Houses1 cI cJ (va_up mr 9 (k_8 9)) (upd mi 6 (Mi_9 6)) (va_up (va_up (va_up (va_up (va_up (va_up (va_up (va_up mf 1 (Mf_10 1)) 2 (Mf_10 2)) 3 (Mf_10 3)) 4 (Mf_10 4)) 5 (Mf_10 5)) 7 (Mf_10 7)) 8 (Mf_10 8)) 9 (Mf_10 9)) mg) H locs := hw24
  obtain ⟨hp_26, hp_27, hp_28⟩ := hp
  have hp_26 : 0 ≤ r_23.toInt := hp_26
  have hp_27 : r_23.toInt ≤ 1023 := hp_27
  have hp_28 : (r_23 : Int32).toInt = ((2 ^ (Mi_9 6).toInt.toNat - 1 : Nat) : Int) := hp_28
  refine lv_istore_n (pc := 8) (lv' := [(1, .int r_23), (0, .ref (mr 0))]) E.1 E.2.1 dX1_pairUp_8 rfl hl3 (by decide) rfl (fun ls hl29 => ?_)
  refine lv_iconst (pc := 9) (v := 0) E.1 E.2.1 dX1_pairUp_9 (by decide +kernel) ?_
  refine lv_istore_n (pc := 10) (lv' := [(2, .int 0), (1, .int r_23), (0, .ref (mr 0))]) E.1 E.2.1 dX1_pairUp_10 rfl hl29 (by decide) rfl (fun ls hl30 => ?_)
  have loop_31 : ∀ (k : Nat) (x_32 : Int32) (x_33 : Int32) (g_34 : Nat → Int32) (H : Heap) (locs : List Loc) (ls : Array Slot), (0 ≤ x_32.toInt) ∧ (x_32.toInt ≤ (Mi_9 6).toInt) ∧ (0 ≤ x_33.toInt) ∧ (x_33.toInt ≤ 1023) ∧ (PU (FR (mi 6).toInt (mf 5)) (mi 6).toInt x_32.toInt x_33.toInt g_34) → (Mi_9 6).toInt - x_32.toInt < (k : Int) → WD D A s.heap (WZ_Houses1 cI cJ (va_up mr 9 (k_8 9)) (upd mi 6 (Mi_9 6)) (va_up (va_up (va_up (va_up (va_up (va_up (va_up (va_up mf 1 (Mf_10 1)) 2 (Mf_10 2)) 3 (Mf_10 3)) 4 (Mf_10 4)) 5 (Mf_10 5)) 7 (Mf_10 7)) 8 g_34) 9 (Mf_10 9)) mg) H locs → lv_has ls 4 [(2, .int x_32), (1, .int x_33), (0, .ref (mr 0))] → W p l e ({ frames := 4, cells := 1, slots := 1024, locals := 108 } : Room) s m ([.ref (mr 0)] : List Value).toArray below meth c H locs 1 1024 (MQ below (va_Qi (fun (r : Int32) (u : Bool × (Nat → Nat) × (Nat → Int32) × (Nat → Nat → Int32) × (Nat → Nat → Int64)) => (u.1 = true) ∧ (0 ≤ (u.2.2.1 6).toInt) ∧ ((u.2.2.1 6).toInt ≤ 10) ∧ ((u.2.2.1 6).toInt = (mi 6).toInt) ∧ ((Eq (mf 1)) (u.2.2.2.1 1)) ∧ ((Eq (mf 5)) (u.2.2.2.1 5)) ∧ (((r : Int32).toInt = mvl (FR (mi 6).toInt (mf 5)) (2 ^ (mi 6).toInt.toNat - 1) ∧ ∀ x : Nat, (x : Int) < (mi 6).toInt → ((u.2.2.2.1 8) x).toInt = prr (FR (mi 6).toInt (mf 5)) (mi 6).toInt.toNat x (mi 6).toInt.toNat (2 ^ (mi 6).toInt.toNat - 1))) ∧ (∀ k : Nat, k < 9 → u.2.1 k = mr k)) (fun u => QW D cI cJ A ((fun (u : Bool × (Nat → Nat) × (Nat → Int32) × (Nat → Nat → Int32) × (Nat → Nat → Int64)) => cond u.1 (WZ_Houses1 cI cJ u.2.1 u.2.2.1 u.2.2.2.1 u.2.2.2.2) (WZ_Hp0 cI cJ mr u.2.2.1 u.2.2.2.1 u.2.2.2.2)) u)) A) ([.ref (mr 0)] : List Value).toArray s 1 1024 A) (F0 m 11 ls []) := by
    intro k
    induction k with
    | zero =>
      intro x_32 x_33 g_34 _ _ _ hinv hm
      obtain ⟨hi_34_0, hi_34_1, hi_34_2, hi_34_3, hi_34_4⟩ := hinv
      exact absurd hm (by omega)
    | succ k ih_35 =>
      intro x_32 x_33 g_34 H locs ls hinv hm hw36 hl37
      obtain ⟨hi_34_0, hi_34_1, hi_34_2, hi_34_3, hi_34_4⟩ := hinv
      refine lv_iload_n (pc := 11) E.1 E.2.1 dX1_pairUp_11 rfl (lv_at hl37 0 rfl) ?_
      refine lv_aload_n (pc := 12) E.1 E.2.1 dX1_pairUp_12 rfl (lv_at hl37 2 rfl) ?_
      refine x_get (pc := 13) (T := TX1) (N := 9) (ci := 1) (v := .int (Mi_9 6)) E hw36 inX1 0 5 q_281 rfl rfl (by decide) rfl rfl dX1_pairUp_13 ?_
      refine lv_icmp_ge (pc := 16) (tgt := 76) E.1 E.2.1 dX1_pairUp_16 (by decide) (fun c_38 => ?_) (fun c_38 => ?_)
      · skip
        have hc_38 := leE (a := (Mi_9 6).toInt) (b := x_32.toInt) rfl rfl c_38
        refine lv_aload_n (pc := 76) E.1 E.2.1 dX1_pairUp_76 rfl (lv_at hl37 2 rfl) ?_
        refine lv_aload_n (pc := 77) E.1 E.2.1 dX1_pairUp_77 rfl (lv_at hl37 2 rfl) ?_
        refine ck_i (pc := 78) (ws' := (fun (u : Unit) => (WZ_Houses1 cI cJ (va_up mr 9 (k_8 9)) (upd mi 6 (Mi_9 6)) (va_up (va_up (va_up (va_up (va_up (va_up (va_up (va_up mf 1 (Mf_10 1)) 2 (Mf_10 2)) 3 (Mf_10 3)) 4 (Mf_10 4)) 5 (Mf_10 5)) 7 (Mf_10 7)) 8 g_34) 9 (Mf_10 9)) mg))) [true, true, true, true, true, true, true, true, true] hw36 rfl (fun hC_ => (rn_V (As := []) (rest := [.ref (mr 0)]) E hw36 (t_all1K l D cI cJ _ (va_up mr 9 (k_8 9)) (upd mi 6 (Mi_9 6)) (va_up (va_up (va_up (va_up (va_up (va_up (va_up (va_up mf 1 (Mf_10 1)) 2 (Mf_10 2)) 3 (Mf_10 3)) 4 (Mf_10 4)) 5 (Mf_10 5)) 7 (Mf_10 7)) 8 g_34) 9 (Mf_10 9)) mg (by show 0 ≤ (Mi_9 6).toInt ∧ (Mi_9 6).toInt ≤ 10; omega)) (gdV q_1280 q_1281 q_1282 q_154 q_1283) hdV_X1_all ⟨rfl, rfl⟩ ⟨(Nat.le_of_ble_eq_true rfl), (Nat.le_of_ble_eq_true rfl)⟩ ⟨(Nat.le_of_ble_eq_true rfl), (Nat.le_of_ble_eq_true rfl)⟩ xT_b xT_at 0 1 rfl rfl rfl _ hC_ (nd_T _ 0) rfl hl37.1 rfl (Nat.le_of_ble_eq_true rfl) dX1_pairUp_78)) rfl (fun _ => rfl) (fun _ => rfl) (fun r_40 u_39 H1 locs hp hw41 => ?_)
        generalize H1 = H at hw41 ⊢
        have hw42 : WD D A s.heap (WZ_Houses1 cI cJ (va_up mr 9 (k_8 9)) (upd mi 6 (Mi_9 6)) (va_up (va_up (va_up (va_up (va_up (va_up (va_up (va_up mf 1 (Mf_10 1)) 2 (Mf_10 2)) 3 (Mf_10 3)) 4 (Mf_10 4)) 5 (Mf_10 5)) 7 (Mf_10 7)) 8 g_34) 9 (Mf_10 9)) mg) H locs := hw41
        obtain ⟨hp_43, hp_44, hp_45⟩ := hp
        have hp_43 : 0 ≤ r_40.toInt := hp_43
        have hp_44 : r_40.toInt ≤ 1023 := hp_44
        have hp_45 : (r_40 : Int32).toInt = ((2 ^ (Mi_9 6).toInt.toNat - 1 : Nat) : Int) := hp_45
        refine ck_i (pc := 81) (ws' := (fun (u : Unit) => (WZ_Houses1 cI cJ (va_up mr 9 (k_8 9)) (upd mi 6 (Mi_9 6)) (va_up (va_up (va_up (va_up (va_up (va_up (va_up (va_up mf 1 (Mf_10 1)) 2 (Mf_10 2)) 3 (Mf_10 3)) 4 (Mf_10 4)) 5 (Mf_10 5)) 7 (Mf_10 7)) 8 g_34) 9 (Mf_10 9)) mg))) [true, true, true, true, true, true, true, true, true] hw42 rfl (fun hC_ => (rn_V (As := [.int r_40]) (rest := []) E hw42 (t_pairsInK l D cI cJ _ (va_up mr 9 (k_8 9)) (upd mi 6 (Mi_9 6)) (va_up (va_up (va_up (va_up (va_up (va_up (va_up (va_up mf 1 (Mf_10 1)) 2 (Mf_10 2)) 3 (Mf_10 3)) 4 (Mf_10 4)) 5 (Mf_10 5)) 7 (Mf_10 7)) 8 g_34) 9 (Mf_10 9)) mg r_40) (gdV q_1276 q_1278 q_42 q_154 q_1279) hdV_X1_pairsIn ⟨rfl, rfl⟩ ⟨(Nat.le_of_ble_eq_true rfl), (Nat.le_of_ble_eq_true rfl)⟩ ⟨(Nat.le_of_ble_eq_true rfl), (Nat.le_of_ble_eq_true rfl)⟩ xT_b xT_at 0 1 rfl rfl rfl _ hC_ (nd_T _ 0) rfl hl37.1 rfl (Nat.le_of_ble_eq_true rfl) dX1_pairUp_81)) rfl (fun _ => rfl) (fun _ => rfl) (fun r_47 u_46 H1 locs hp hw48 => ?_)
        generalize H1 = H at hw48 ⊢
        have hw49 : WD D A s.heap (WZ_Houses1 cI cJ (va_up mr 9 (k_8 9)) (upd mi 6 (Mi_9 6)) (va_up (va_up (va_up (va_up (va_up (va_up (va_up (va_up mf 1 (Mf_10 1)) 2 (Mf_10 2)) 3 (Mf_10 3)) 4 (Mf_10 4)) 5 (Mf_10 5)) 7 (Mf_10 7)) 8 g_34) 9 (Mf_10 9)) mg) H locs := hw48
        have hp_50 := hp
        have hp_50 : (r_47 : Int32).toInt = PINf (Mf_10 9) r_40.toInt := hp_50
        exact em_i (w1 := (fun (u : Bool × (Nat → Nat) × (Nat → Int32) × (Nat → Nat → Int32) × (Nat → Nat → Int64)) => cond u.1 (WZ_Houses1 cI cJ u.2.1 u.2.2.1 u.2.2.2.1 u.2.2.2.2) (WZ_Hp0 cI cJ mr u.2.2.1 u.2.2.2.1 u.2.2.2.2))) E hr hlk (true, (va_up mr 9 (k_8 9)), (upd mi 6 (Mi_9 6)), (va_up (va_up (va_up (va_up (va_up (va_up (va_up (va_up mf 1 (Mf_10 1)) 2 (Mf_10 2)) 3 (Mf_10 3)) 4 (Mf_10 4)) 5 (Mf_10 5)) 7 (Mf_10 7)) 8 g_34) 9 (Mf_10 9)), mg) hw49 ⟨rfl, (by show 0 ≤ (Mi_9 6).toInt; omega), (by show (Mi_9 6).toInt ≤ 10; omega), (by show (Mi_9 6).toInt = (mi 6).toInt; omega), hp_16, hp_17, (show ((r_47 : Int32).toInt = mvl (FR (mi 6).toInt (mf 5)) (2 ^ (mi 6).toInt.toNat - 1) ∧ ∀ x : Nat, (x : Int) < (mi 6).toInt → (g_34 x).toInt = prr (FR (mi 6).toInt (mf 5)) (mi 6).toInt.toNat x (mi 6).toInt.toNat (2 ^ (mi 6).toInt.toNat - 1)) from ⟨pu_all hp_18 (by have z := hp_45; rw [hgc] at z; exact z) hp_50 ⟨by omega, by omega⟩, PU_e hi_34_4 (by omega)⟩), (fun k hk => by show (va_up mr 9 (k_8 9)) k = mr k; simp only [va_up]; repeat rw [if_neg (by omega)])⟩ (Nat.le_of_ble_eq_true rfl) (Nat.le_of_ble_eq_true rfl) dX1_pairUp_84
      · skip
        have hc_38 := nleE (a := (Mi_9 6).toInt) (b := x_32.toInt) rfl rfl c_38
        refine lv_iload_n (pc := 19) E.1 E.2.1 dX1_pairUp_19 rfl (lv_at hl37 1 rfl) ?_
        refine lv_iload_n (pc := 20) E.1 E.2.1 dX1_pairUp_20 rfl (lv_at hl37 0 rfl) ?_
        refine lv_ishr (pc := 21) E.1 E.2.1 dX1_pairUp_21 ?_
        refine lv_topi (fun v_51 ev_51 => ?_)
        refine lv_iconst (pc := 22) (v := 1) E.1 E.2.1 dX1_pairUp_22 (by decide +kernel) ?_
        refine lv_iand (pc := 23) E.1 E.2.1 dX1_pairUp_23 ?_
        refine lv_topi (fun v_52 ev_52 => ?_)
        refine lv_iconst (pc := 24) (v := 1) E.1 E.2.1 dX1_pairUp_24 (by decide +kernel) ?_
        have hq_53 := sb_bit ev_51 ev_52 ⟨by omega, by omega⟩ ⟨by omega, by omega⟩
        refine lv_icmp_ne (pc := 25) (tgt := 70) E.1 E.2.1 dX1_pairUp_25 (by decide) (fun c_54 => ?_) (fun c_54 => ?_)
        · skip
          have hc_54 := neE (a := v_52.toInt) (b := 1) rfl (by decide +kernel) c_54
          obtain ⟨v_55, ev_55⟩ : ∃ z : Int32, x_32 + Int32.ofInt (1) = z := ⟨_, rfl⟩
          have hv_55 : v_55.toInt = x_32.toInt + (1) := by rw [← ev_55]; exact incE rfl (by decide) (by omega)
          refine lv_iinc (pc := 70) (v := v_55) (lv' := [(2, .int v_55), (1, .int x_33), (0, .ref (mr 0))]) E.1 E.2.1 dX1_pairUp_70 hl37 (k := 0) rfl ev_55 (by decide) rfl (fun ls hl56 => ?_)
          refine lv_goto (pc := 73) (tgt := 11) E.1 E.2.1 dX1_pairUp_73 (by decide) ?_
          exact ih_35 v_55 x_33 g_34 _ _ _ ⟨(by show 0 ≤ v_55.toInt; omega), (by show v_55.toInt ≤ (Mi_9 6).toInt; omega), hi_34_2, hi_34_3, (PU_no hi_34_4 (by rcases hq_53 with ⟨q, -⟩ | ⟨-, q⟩; omega; exact q) ⟨by omega, by omega⟩ (by omega))⟩ (by omega) hw36 (lv_sub hl56 [0, 1, 2] rfl)
        · skip
          have hc_54 := eqE (a := v_52.toInt) (b := 1) rfl (by decide +kernel) c_54
          refine lv_aload_n (pc := 28) E.1 E.2.1 dX1_pairUp_28 rfl (lv_at hl37 2 rfl) ?_
          refine lv_iload_n (pc := 29) E.1 E.2.1 dX1_pairUp_29 rfl (lv_at hl37 0 rfl) ?_
          refine lv_iload_n (pc := 30) E.1 E.2.1 dX1_pairUp_30 rfl (lv_at hl37 1 rfl) ?_
          refine ck_i (pc := 31) (ws' := (fun (u : Unit) => (WZ_Houses1 cI cJ (va_up mr 9 (k_8 9)) (upd mi 6 (Mi_9 6)) (va_up (va_up (va_up (va_up (va_up (va_up (va_up (va_up mf 1 (Mf_10 1)) 2 (Mf_10 2)) 3 (Mf_10 3)) 4 (Mf_10 4)) 5 (Mf_10 5)) 7 (Mf_10 7)) 8 g_34) 9 (Mf_10 9)) mg))) [true, true, true, true, true, true, true, true, true] hw36 rfl (fun hC_ => (rn_V (As := [.int x_32, .int x_33]) (rest := []) E hw36 (t_firstPartnerK l D cI cJ _ (va_up mr 9 (k_8 9)) (upd mi 6 (Mi_9 6)) (va_up (va_up (va_up (va_up (va_up (va_up (va_up (va_up mf 1 (Mf_10 1)) 2 (Mf_10 2)) 3 (Mf_10 3)) 4 (Mf_10 4)) 5 (Mf_10 5)) 7 (Mf_10 7)) 8 g_34) 9 (Mf_10 9)) mg x_32 x_33 (by show 0 ≤ (Mi_9 6).toInt ∧ (Mi_9 6).toInt ≤ 10; omega) hi_34_0 (by show x_32.toInt + 1 ≤ (Mi_9 6).toInt; omega) ⟨hi_34_2, hi_34_3⟩ (show WFF (Mi_9 6).toInt (Mf_10 5) from (by rw [hgc, hgf]; exact x_wf)) (show TBL (FR (Mi_9 6).toInt (Mf_10 5)) (Mf_10 9) ((2 ^ (Mi_9 6).toInt.toNat : Nat) : Int) from (by rw [hgc, hgf]; exact hp_18)) (show LFT (Mi_9 6).toInt x_32.toInt x_33.toInt.toNat from (by rw [hgc]; exact hi_34_4.2.1))) (gdV q_1284 q_1286 q_43 q_154 q_1287) hdV_X1_firstPartner ⟨rfl, rfl⟩ ⟨(Nat.le_of_ble_eq_true rfl), (Nat.le_of_ble_eq_true rfl)⟩ ⟨(Nat.le_of_ble_eq_true rfl), (Nat.le_of_ble_eq_true rfl)⟩ xT_b xT_at 0 1 rfl rfl rfl _ hC_ (nd_T _ 0) rfl hl37.1 rfl (Nat.le_of_ble_eq_true rfl) dX1_pairUp_31)) rfl (fun _ => rfl) (fun _ => rfl) (fun r_58 u_57 H1 locs hp hw59 => ?_)
          generalize H1 = H at hw59 ⊢
          have hw60 : WD D A s.heap (WZ_Houses1 cI cJ (va_up mr 9 (k_8 9)) (upd mi 6 (Mi_9 6)) (va_up (va_up (va_up (va_up (va_up (va_up (va_up (va_up mf 1 (Mf_10 1)) 2 (Mf_10 2)) 3 (Mf_10 3)) 4 (Mf_10 4)) 5 (Mf_10 5)) 7 (Mf_10 7)) 8 g_34) 9 (Mf_10 9)) mg) H locs := hw59
          obtain ⟨hp_61, hp_62, hp_63⟩ := hp
          have hp_61 : (-1) ≤ r_58.toInt := hp_61
          have hp_62 : r_58.toInt + 1 ≤ (Mi_9 6).toInt := hp_62
          have hp_63 : (r_58 : Int32).toInt = fpN (FR (Mi_9 6).toInt (Mf_10 5)) x_33.toInt.toNat x_32.toInt.toNat (Mi_9 6).toInt.toNat := hp_63
          refine lv_istore_n (pc := 34) (lv' := [(3, .int r_58), (2, .int x_32), (1, .int x_33), (0, .ref (mr 0))]) E.1 E.2.1 dX1_pairUp_34 rfl hl37 (by decide) rfl (fun ls hl64 => ?_)
          refine lv_aload_n (pc := 35) E.1 E.2.1 dX1_pairUp_35 rfl (lv_at hl64 3 rfl) ?_
          refine x_get (pc := 36) (T := TX1) (N := 9) (ci := 1) (v := .ref (mr 8)) E hw60 inX1 0 7 q_286 rfl rfl (by decide) rfl rfl dX1_pairUp_36 ?_
          refine lv_iload_n (pc := 39) E.1 E.2.1 dX1_pairUp_39 rfl (lv_at hl64 1 rfl) ?_
          refine lv_iload_n (pc := 40) E.1 E.2.1 dX1_pairUp_40 rfl (lv_at hl64 0 rfl) ?_
          refine x_iastG (pc := 41) (f := g_34) (wf := fun g => (WZ_Houses1 cI cJ (va_up mr 9 (k_8 9)) (upd mi 6 (Mi_9 6)) (va_up (va_up (va_up (va_up (va_up (va_up (va_up (va_up mf 1 (Mf_10 1)) 2 (Mf_10 2)) 3 (Mf_10 3)) 4 (Mf_10 4)) 5 (Mf_10 5)) 7 (Mf_10 7)) 8 g) 9 (Mf_10 9)) mg)) E hw60 7 rfl (inbE (a := x_32.toInt) rfl (by omega)) (fun _ => rfl) dX1_pairUp_41 (fun g_65 H locs eg_65 hw66 => ?_)
          refine lv_iload_n (pc := 42) E.1 E.2.1 dX1_pairUp_42 rfl (lv_at hl64 2 rfl) ?_
          refine lv_iconst (pc := 43) (v := 1) E.1 E.2.1 dX1_pairUp_43 (by decide +kernel) ?_
          refine lv_iload_n (pc := 44) E.1 E.2.1 dX1_pairUp_44 rfl (lv_at hl64 1 rfl) ?_
          refine lv_ishl (pc := 45) E.1 E.2.1 dX1_pairUp_45 ?_
          refine lv_topi (fun v_67 ev_67 => ?_)
          have hb1v_67 : 1 ≤ v_67.toInt ∧ v_67.toInt ≤ 512 := by rw [ev_67]; exact shl9 (by omega)
          refine lv_iconst (pc := 46) (v := (-1)) E.1 E.2.1 dX1_pairUp_46 (by decide +kernel) ?_
          refine lv_ixor (pc := 47) E.1 E.2.1 dX1_pairUp_47 ?_
          refine lv_topi (fun v_68 ev_68 => ?_)
          refine lv_iand (pc := 48) E.1 E.2.1 dX1_pairUp_48 ?_
          refine lv_topi (fun v_69 ev_69 => ?_)
          have hb1v_69 : 0 ≤ v_69.toInt ∧ v_69.toInt ≤ x_33.toInt := by rw [ev_69]; exact and10 (by omega)
          refine lv_istore_n (pc := 49) (lv' := [(1, .int v_69), (3, .int r_58), (2, .int x_32), (0, .ref (mr 0))]) E.1 E.2.1 dX1_pairUp_49 rfl hl64 (by decide) rfl (fun ls hl70 => ?_)
          refine lv_iload_n (pc := 50) E.1 E.2.1 dX1_pairUp_50 rfl (lv_at hl70 1 rfl) ?_
          refine lv_iconst (pc := 51) (v := (-1)) E.1 E.2.1 dX1_pairUp_51 (by decide +kernel) ?_
          refine lv_icmp_eq (pc := 52) (tgt := 70) E.1 E.2.1 dX1_pairUp_52 (by decide) (fun c_71 => ?_) (fun c_71 => ?_)
          · skip
            have hc_71 := eqE (a := r_58.toInt) (b := (-1)) rfl (by decide +kernel) c_71
            obtain ⟨v_72, ev_72⟩ : ∃ z : Int32, x_32 + Int32.ofInt (1) = z := ⟨_, rfl⟩
            have hv_72 : v_72.toInt = x_32.toInt + (1) := by rw [← ev_72]; exact incE rfl (by decide) (by omega)
            refine lv_iinc (pc := 70) (v := v_72) (lv' := [(2, .int v_72), (1, .int v_69), (3, .int r_58), (0, .ref (mr 0))]) E.1 E.2.1 dX1_pairUp_70 hl70 (k := 2) rfl ev_72 (by decide) rfl (fun ls hl73 => ?_)
            refine lv_goto (pc := 73) (tgt := 11) E.1 E.2.1 dX1_pairUp_73 (by decide) ?_
            exact ih_35 v_72 v_69 g_65 _ _ _ ⟨(by show 0 ≤ v_72.toInt; omega), (by show v_72.toInt ≤ (Mi_9 6).toInt; omega), (by show 0 ≤ v_69.toInt; omega), (by show v_69.toInt ≤ 1023; omega), (PU_one hi_34_4 (by rcases hq_53 with ⟨-, q⟩ | ⟨q, -⟩; exact q; omega) ⟨by omega, by omega⟩ (by omega) (by have z := hp_63; rw [hgc, hgf] at z; exact z) (by omega) eg_65 ev_67 ev_68 ev_69 (by omega))⟩ (by omega) hw66 (lv_sub hl73 [0, 1, 3] rfl)
          · skip
            have hc_71 := neE (a := r_58.toInt) (b := (-1)) rfl (by decide +kernel) c_71
            refine lv_aload_n (pc := 55) E.1 E.2.1 dX1_pairUp_55 rfl (lv_at hl70 3 rfl) ?_
            refine x_get (pc := 56) (T := TX1) (N := 9) (ci := 1) (v := .ref (mr 8)) E hw66 inX1 0 7 q_286 rfl rfl (by decide) rfl rfl dX1_pairUp_56 ?_
            refine lv_iload_n (pc := 59) E.1 E.2.1 dX1_pairUp_59 rfl (lv_at hl70 1 rfl) ?_
            refine lv_iload_n (pc := 60) E.1 E.2.1 dX1_pairUp_60 rfl (lv_at hl70 2 rfl) ?_
            refine x_iastG (pc := 61) (f := g_65) (wf := fun g => (WZ_Houses1 cI cJ (va_up mr 9 (k_8 9)) (upd mi 6 (Mi_9 6)) (va_up (va_up (va_up (va_up (va_up (va_up (va_up (va_up mf 1 (Mf_10 1)) 2 (Mf_10 2)) 3 (Mf_10 3)) 4 (Mf_10 4)) 5 (Mf_10 5)) 7 (Mf_10 7)) 8 g) 9 (Mf_10 9)) mg)) E hw66 7 rfl (inbE (a := r_58.toInt) rfl (by omega)) (fun _ => rfl) dX1_pairUp_61 (fun g_74 H locs eg_74 hw75 => ?_)
            refine lv_iload_n (pc := 62) E.1 E.2.1 dX1_pairUp_62 rfl (lv_at hl70 0 rfl) ?_
            refine lv_iconst (pc := 63) (v := 1) E.1 E.2.1 dX1_pairUp_63 (by decide +kernel) ?_
            refine lv_iload_n (pc := 64) E.1 E.2.1 dX1_pairUp_64 rfl (lv_at hl70 1 rfl) ?_
            refine lv_ishl (pc := 65) E.1 E.2.1 dX1_pairUp_65 ?_
            refine lv_topi (fun v_76 ev_76 => ?_)
            have hb1v_76 : 1 ≤ v_76.toInt ∧ v_76.toInt ≤ 512 := by rw [ev_76]; exact shl9 (by omega)
            refine lv_iconst (pc := 66) (v := (-1)) E.1 E.2.1 dX1_pairUp_66 (by decide +kernel) ?_
            refine lv_ixor (pc := 67) E.1 E.2.1 dX1_pairUp_67 ?_
            refine lv_topi (fun v_77 ev_77 => ?_)
            refine lv_iand (pc := 68) E.1 E.2.1 dX1_pairUp_68 ?_
            refine lv_topi (fun v_78 ev_78 => ?_)
            have hb1v_78 : 0 ≤ v_78.toInt ∧ v_78.toInt ≤ v_69.toInt := by rw [ev_78]; exact and10 (by omega)
            refine lv_istore_n (pc := 69) (lv' := [(1, .int v_78), (3, .int r_58), (2, .int x_32), (0, .ref (mr 0))]) E.1 E.2.1 dX1_pairUp_69 rfl hl70 (by decide) rfl (fun ls hl79 => ?_)
            obtain ⟨v_80, ev_80⟩ : ∃ z : Int32, x_32 + Int32.ofInt (1) = z := ⟨_, rfl⟩
            have hv_80 : v_80.toInt = x_32.toInt + (1) := by rw [← ev_80]; exact incE rfl (by decide) (by omega)
            refine lv_iinc (pc := 70) (v := v_80) (lv' := [(2, .int v_80), (1, .int v_78), (3, .int r_58), (0, .ref (mr 0))]) E.1 E.2.1 dX1_pairUp_70 hl79 (k := 2) rfl ev_80 (by decide) rfl (fun ls hl81 => ?_)
            refine lv_goto (pc := 73) (tgt := 11) E.1 E.2.1 dX1_pairUp_73 (by decide) ?_
            exact ih_35 v_80 v_78 g_74 _ _ _ ⟨(by show 0 ≤ v_80.toInt; omega), (by show v_80.toInt ≤ (Mi_9 6).toInt; omega), (by show 0 ≤ v_78.toInt; omega), (by show v_78.toInt ≤ 1023; omega), (PU_two hi_34_4 (by rcases hq_53 with ⟨-, q⟩ | ⟨q, -⟩; exact q; omega) ⟨by omega, by omega⟩ (by omega) (by have z := hp_63; rw [hgc, hgf] at z; exact z) ⟨by omega, by omega⟩ eg_65 eg_74 ev_67 ev_68 ev_69 ev_76 ev_77 ev_78 (by omega))⟩ (by omega) hw75 (lv_sub hl81 [0, 1, 3] rfl)
  exact loop_31 (Int.toNat ((Mi_9 6).toInt - 0) + 1) 0 r_23 (Mf_10 8) _ _ _ ⟨(by show 0 ≤ (0 : Int32).toInt; have k_0 : (0 : Int32).toInt = 0 := (by decide +kernel); omega), (by show (0 : Int32).toInt ≤ (Mi_9 6).toInt; have k_0 : (0 : Int32).toInt = 0 := (by decide +kernel); omega), hp_26, hp_27, (PU_i (by have z := hp_28; rw [hgc] at z; exact z) (by decide +kernel) ⟨by omega, by omega⟩)⟩ (by have k_0 : (0 : Int32).toInt = 0 := (by decide +kernel); omega) hw25 (lv_sub hl30 [0, 1, 2] rfl)
set_option maxHeartbeats 4000000 in
set_option maxRecDepth 100000 in
theorem t_rooms0 (l : Launch) (D : va_G) (cI cJ : ClassId) (sz : Nat) (mr : Nat → Nat) (mi : Nat → Int32) (mf : Nat → Nat → Int32) (mg : Nat → Nat → Int64) (z_what : Int32) (mv : Nat → Value) (h0 : 0 ≤ (mi 1).toInt ∧ (mi 1).toInt ≤ 5) (h1 : 0 ≤ (mi 2).toInt ∧ (mi 2).toInt ≤ 6) (h2 : 0 ≤ (mi 14).toInt ∧ (mi 14).toInt ≤ 10) (x_wf : WFF (mi 14).toInt (mf 13)) : Met l yX11_rooms (Cond.code yX11_rooms cX11_rooms 3 (some .int) :: GW) ({ frames := 11, cells := 1, slots := 1024, locals := 263 } : Room) (va_Pc [.ref (mr 0), .int z_what] (PW D cI cJ sz (WZ_Mrooms0 cI cJ mv mr mi mf mg) xT)) (va_Qi (fun (r : Int32) (u : Bool × (Nat → Nat) × (Nat → Int32) × (Nat → Nat → Int32) × (Nat → Nat → Int64)) => (0 ≤ (u.2.2.1 1).toInt) ∧ ((u.2.2.1 1).toInt ≤ 5) ∧ (0 ≤ (u.2.2.1 2).toInt) ∧ ((u.2.2.1 2).toInt ≤ 6) ∧ (0 ≤ (u.2.2.1 14).toInt) ∧ ((u.2.2.1 14).toInt ≤ 10) ∧ ((u.2.2.1 14).toInt = (mi 14).toInt) ∧ ((Eq (mf 9)) (u.2.2.2.1 9)) ∧ ((Eq (mf 13)) (u.2.2.2.1 13)) ∧ ((r : Int32).toInt = RMA (mf 13) (mi 14).toInt z_what.toInt) ∧ (∀ k : Nat, k < 17 → u.2.1 k = mr k)) (fun u => QW D cI cJ (va_A (WZ_Mrooms0 cI cJ mv mr mi mf mg) sz) ((fun (u : Bool × (Nat → Nat) × (Nat → Int32) × (Nat → Nat → Int32) × (Nat → Nat → Int64)) => cond u.1 (WZ_rooms1 cI cJ mv u.2.1 u.2.2.1 u.2.2.2.1 u.2.2.2.2) (WZ_Mrooms0 cI cJ mv mr u.2.2.1 u.2.2.2.1 u.2.2.2.2)) u)) (va_A (WZ_Mrooms0 cI cJ mv mr mi mf mg) sz)) 1 1024 (va_A (WZ_Mrooms0 cI cJ mv mr mi mf mg) sz) := by
  refine mk_met (y := yX11_rooms) (bytes := cX11_rooms) (maxL := 3) (avs := [.ref (mr 0), .int z_what]) (WS := (WZ_Mrooms0 cI cJ mv mr mi mf mg)) (Qf := fun A => va_Qi (fun (r : Int32) (u : Bool × (Nat → Nat) × (Nat → Int32) × (Nat → Nat → Int32) × (Nat → Nat → Int64)) => (0 ≤ (u.2.2.1 1).toInt) ∧ ((u.2.2.1 1).toInt ≤ 5) ∧ (0 ≤ (u.2.2.1 2).toInt) ∧ ((u.2.2.1 2).toInt ≤ 6) ∧ (0 ≤ (u.2.2.1 14).toInt) ∧ ((u.2.2.1 14).toInt ≤ 10) ∧ ((u.2.2.1 14).toInt = (mi 14).toInt) ∧ ((Eq (mf 9)) (u.2.2.2.1 9)) ∧ ((Eq (mf 13)) (u.2.2.2.1 13)) ∧ ((r : Int32).toInt = RMA (mf 13) (mi 14).toInt z_what.toInt) ∧ (∀ k : Nat, k < 17 → u.2.1 k = mr k)) (fun u => QW D cI cJ A ((fun (u : Bool × (Nat → Nat) × (Nat → Int32) × (Nat → Nat → Int32) × (Nat → Nat → Int64)) => cond u.1 (WZ_rooms1 cI cJ mv u.2.1 u.2.2.1 u.2.2.2.1 u.2.2.2.2) (WZ_Mrooms0 cI cJ mv mr u.2.2.1 u.2.2.2.1 u.2.2.2.2)) u)) A) (by decide) (Nat.le_of_ble_eq_true rfl) ?_
  intro p e s m below meth c A ls E hr hlk hnm hX hw1 hl2
  have hl3 : lv_has ls 3 [(0, .ref (mr 0)), (1, .int z_what)] := hl2
  have hwm := Int32.toInt_lt z_what
  refine lv_iload_n (pc := 0) E.1 E.2.1 dX11_rooms_0 rfl (lv_at hl3 1 rfl) ?_
  refine lv_if_eq (pc := 1) (tgt := 29) E.1 E.2.1 dX11_rooms_1 (by decide) (fun c_4 => ?_) (fun c_4 => ?_)
  · skip
    have hc_4 := eqE (a := z_what.toInt) (b := 0) rfl (by decide +kernel) c_4
    refine lv_aload_n (pc := 29) E.1 E.2.1 dX11_rooms_29 rfl (lv_at hl3 0 rfl) ?_
    refine x_get (pc := 30) (T := TX11) (N := 13) (ci := 11) (v := .ref (mr 3)) E hw1 inX11 0 0 q_606 rfl rfl (by decide) rfl rfl dX11_rooms_30 ?_
    refine x_get (pc := 33) (T := TX10) (N := 17) (ci := 10) (v := .ref (mr 8)) E hw1 inX10 1 1 q_463 rfl rfl (by decide) rfl rfl dX11_rooms_33 ?_
    refine cl_i (pc := 36) (k1 := 1) (n1 := 1024) (wr := restW (WZ_Mrooms0 cI cJ mv mr mi mf mg) [0, 1]) hw1 [2, 3, 4, 5, 6, 7, 8, 9] [0, 1] rfl rfl (by decide) (by decide) (Nat.le_of_ble_eq_true rfl) (Nat.le_of_ble_eq_true rfl) (rn_V (As := []) (rest := []) E hw1 (t_pairUp0K l D cI cJ _ (shf 8 mr) (shf 8 mi) (shf 8 mf) (shf 8 mg) h2 (show WFF (mi 14).toInt (mf 13) from x_wf)) (gdV q_1264 q_1265 q_1266 q_154 q_1267) hdV_X1_pairUp ⟨rfl, rfl⟩ ⟨(Nat.le_of_ble_eq_true rfl), (Nat.le_of_ble_eq_true rfl)⟩ ⟨(Nat.le_of_ble_eq_true rfl), (Nat.le_of_ble_eq_true rfl)⟩ xT_b xT_at 2 1 rfl rfl rfl [2, 3, 4, 5, 6, 7, 8, 9] rfl (by decide) rfl hl3.1 rfl (Nat.le_of_ble_eq_true rfl) dX11_rooms_36) (fun r_6 u_5 H1 locs hp hw7 => ?_)
    generalize H1 = H at hw7 ⊢
    obtain ⟨b_8, k_9, Mi_10, Mf_11, Mg_12⟩ := u_5
    obtain ⟨hp_13, hp_14, hp_15, hp_16, hp_17, hp_18, hp_19, hp_20⟩ := hp
    obtain rfl : b_8 = true := hp_13
    have hw21 := hw7
    have ek0_k_9 : k_9 0 = mr 8 := hp_20 0 (by decide)
    have ek1_k_9 : k_9 1 = mr 9 := hp_20 1 (by decide)
    have ek2_k_9 : k_9 2 = mr 10 := hp_20 2 (by decide)
    have ek3_k_9 : k_9 3 = mr 11 := hp_20 3 (by decide)
    have ek4_k_9 : k_9 4 = mr 12 := hp_20 4 (by decide)
    have ek5_k_9 : k_9 5 = mr 13 := hp_20 5 (by decide)
    have ek7_k_9 : k_9 7 = mr 15 := hp_20 7 (by decide)
    have ek8_k_9 : k_9 8 = mr 16 := hp_20 8 (by decide)
    simp only [cond_true, WZ_Houses1, ek0_k_9, ek1_k_9, ek2_k_9, ek3_k_9, ek4_k_9, ek5_k_9, ek7_k_9, ek8_k_9] at hw21
    have hw22 : WD D A s.heap (WZ_rooms1 cI cJ mv (va_up mr 17 (k_9 9)) (upd mi 14 (Mi_10 6)) (va_up (va_up (va_up (va_up (va_up (va_up (va_up (va_up mf 9 (Mf_11 1)) 10 (Mf_11 2)) 11 (Mf_11 3)) 12 (Mf_11 4)) 13 (Mf_11 5)) 15 (Mf_11 7)) 16 (Mf_11 8)) 17 (Mf_11 9)) mg) H locs := hw21.sub [0, 1, 2, 3, 4, 5, 6, 7, 8, 9, 10] rfl (by decide)
    have hp_14 : 0 ≤ (Mi_10 6).toInt := hp_14
    have hp_15 : (Mi_10 6).toInt ≤ 10 := hp_15
    have hp_16 : (Mi_10 6).toInt = (mi 14).toInt := hp_16
    have hp_19 : ((r_6 : Int32).toInt = mvl (FR (mi 14).toInt (mf 13)) (2 ^ (mi 14).toInt.toNat - 1) ∧ ∀ x : Nat, (x : Int) < (mi 14).toInt → ((Mf_11 8) x).toInt = prr (FR (mi 14).toInt (mf 13)) (mi 14).toInt.toNat x (mi 14).toInt.toNat (2 ^ (mi 14).toInt.toNat - 1)) := hp_19
    refine lv_istore_n (pc := 39) (lv' := [(2, .int r_6), (0, .ref (mr 0)), (1, .int z_what)]) E.1 E.2.1 dX11_rooms_39 rfl hl3 (by decide) rfl (fun ls hl23 => ?_)
    refine lv_iload_n (pc := 40) E.1 E.2.1 dX11_rooms_40 rfl (lv_at hl23 2 rfl) ?_
    refine lv_if_ne (pc := 41) (tgt := 48) E.1 E.2.1 dX11_rooms_41 (by decide) (fun c_24 => absurd (meqE (a := z_what.toInt) (b := 0) rfl (by decide +kernel) (by omega)) c_24) (fun _ => ?_)
    refine lv_iload_n (pc := 44) E.1 E.2.1 dX11_rooms_44 rfl (lv_at hl23 0 rfl) ?_
    refine lv_goto (pc := 45) (tgt := 63) E.1 E.2.1 dX11_rooms_45 (by decide) ?_
    exact em_i (w1 := (fun (u : Bool × (Nat → Nat) × (Nat → Int32) × (Nat → Nat → Int32) × (Nat → Nat → Int64)) => cond u.1 (WZ_rooms1 cI cJ mv u.2.1 u.2.2.1 u.2.2.2.1 u.2.2.2.2) (WZ_Mrooms0 cI cJ mv mr u.2.2.1 u.2.2.2.1 u.2.2.2.2))) E hr hlk (true, (va_up mr 17 (k_9 9)), (upd mi 14 (Mi_10 6)), (va_up (va_up (va_up (va_up (va_up (va_up (va_up (va_up mf 9 (Mf_11 1)) 10 (Mf_11 2)) 11 (Mf_11 3)) 12 (Mf_11 4)) 13 (Mf_11 5)) 15 (Mf_11 7)) 16 (Mf_11 8)) 17 (Mf_11 9)), mg) hw22 ⟨h0.1, h0.2, h1.1, h1.2, (by show 0 ≤ (Mi_10 6).toInt; omega), (by show (Mi_10 6).toInt ≤ 10; omega), (by show (Mi_10 6).toInt = (mi 14).toInt; omega), hp_17, hp_18, (show (r_6 : Int32).toInt = RMA (mf 13) (mi 14).toInt z_what.toInt from (RM_all hp_19.1 (by omega))), (fun k hk => by show (va_up mr 17 (k_9 9)) k = mr k; simp only [va_up]; repeat rw [if_neg (by omega)])⟩ (Nat.le_of_ble_eq_true rfl) (Nat.le_of_ble_eq_true rfl) dX11_rooms_63
  · skip
    have hc_4 := neE (a := z_what.toInt) (b := 0) rfl (by decide +kernel) c_4
    refine lv_iload_n (pc := 4) E.1 E.2.1 dX11_rooms_4 rfl (lv_at hl3 1 rfl) ?_
    refine lv_bipush (pc := 5) (v := 10) E.1 E.2.1 dX11_rooms_5 (by decide +kernel) ?_
    refine lv_icmp_lt (pc := 7) (tgt := 27) E.1 E.2.1 dX11_rooms_7 (by decide) (fun c_25 => ?_) (fun c_25 => ?_)
    · skip
      have hc_25 := ltE (a := z_what.toInt) (b := 10) rfl (by decide +kernel) c_25
      refine lv_iconst (pc := 27) (v := (-1)) E.1 E.2.1 dX11_rooms_27 (by decide +kernel) ?_
      exact em_i (w1 := (fun (u : Bool × (Nat → Nat) × (Nat → Int32) × (Nat → Nat → Int32) × (Nat → Nat → Int64)) => cond u.1 (WZ_rooms1 cI cJ mv u.2.1 u.2.2.1 u.2.2.2.1 u.2.2.2.2) (WZ_Mrooms0 cI cJ mv mr u.2.2.1 u.2.2.2.1 u.2.2.2.2))) E hr hlk (false, mr, mi, mf, mg) hw1 ⟨h0.1, h0.2, h1.1, h1.2, h2.1, h2.2, rfl, rfl, rfl, (show ((-1) : Int32).toInt = RMA (mf 13) (mi 14).toInt z_what.toInt from (RM_no (by omega) (by omega) (by decide +kernel))), (fun _ _ => rfl)⟩ (Nat.le_of_ble_eq_true rfl) (Nat.le_of_ble_eq_true rfl) dX11_rooms_28
    · skip
      have hc_25 := nltE (a := z_what.toInt) (b := 10) rfl (by decide +kernel) c_25
      refine lv_aload_n (pc := 10) E.1 E.2.1 dX11_rooms_10 rfl (lv_at hl3 0 rfl) ?_
      refine x_get (pc := 11) (T := TX11) (N := 13) (ci := 11) (v := .ref (mr 3)) E hw1 inX11 0 0 q_606 rfl rfl (by decide) rfl rfl dX11_rooms_11 ?_
      refine x_get (pc := 14) (T := TX10) (N := 17) (ci := 10) (v := .ref (mr 8)) E hw1 inX10 1 1 q_463 rfl rfl (by decide) rfl rfl dX11_rooms_14 ?_
      refine lv_iload_n (pc := 17) E.1 E.2.1 dX11_rooms_17 rfl (lv_at hl3 1 rfl) ?_
      refine lv_bipush (pc := 18) (v := 10) E.1 E.2.1 dX11_rooms_18 (by decide +kernel) ?_
      refine lv_isub (pc := 20) E.1 E.2.1 dX11_rooms_20 ?_
      refine lv_topi (fun v_26 ev_26 => ?_)
      have hv_26 : v_26.toInt = z_what.toInt - 10 := by rw [ev_26]; exact subE rfl (by decide +kernel) (by omega)
      refine ck_i (pc := 21) (ws' := (fun (u : Unit) => (WZ_Mrooms0 cI cJ mv mr mi mf mg))) [false, false, true, true, true, true, true, true, true, true] hw1 rfl (fun hC_ => (rn_V (As := [.int v_26]) (rest := []) E hw1 (t_has l D cI cJ _ (shf 8 mr) (shf 8 mi) (shf 8 mf) (shf 8 mg) v_26 (vl [.null])) (gdV q_674 q_675 q_676 q_154 q_677) hdV_X1_has ⟨rfl, rfl⟩ ⟨(Nat.le_of_ble_eq_true rfl), (Nat.le_of_ble_eq_true rfl)⟩ ⟨(Nat.le_of_ble_eq_true rfl), (Nat.le_of_ble_eq_true rfl)⟩ xT_b xT_at 2 1 rfl rfl rfl _ hC_ (nd_T _ 0) rfl hl3.1 rfl (Nat.le_of_ble_eq_true rfl) dX11_rooms_21)) rfl (fun _ => rfl) (fun _ => rfl) (fun r_28 u_27 H1 locs hp hw29 => ?_)
      generalize H1 = H at hw29 ⊢
      have hw30 : WD D A s.heap (WZ_Mrooms0 cI cJ mv mr mi mf mg) H locs := hw29
      have hp_31 := hp
      rcases hp_31 with ⟨rfl, ha_32, ha_33, ha_34⟩ | ⟨rfl, ha_35⟩ | ⟨rfl, ha_36⟩ | ⟨rfl, ha_37⟩
      · skip
        have ha_32 : 0 ≤ v_26.toInt := ha_32
        have ha_33 : v_26.toInt + 1 ≤ (mi 14).toInt := ha_33
        have ha_34 : v_26.toInt ≤ 9 := ha_34
        refine lv_if_ne (pc := 24) (tgt := 29) E.1 E.2.1 dX11_rooms_24 (by decide) (fun _ => ?_) (fun c_38 => absurd c_38 (mneE (a := 1) (b := 0) (by decide +kernel) (by decide +kernel) (by omega)))
        refine lv_aload_n (pc := 29) E.1 E.2.1 dX11_rooms_29 rfl (lv_at hl3 0 rfl) ?_
        refine x_get (pc := 30) (T := TX11) (N := 13) (ci := 11) (v := .ref (mr 3)) E hw30 inX11 0 0 q_606 rfl rfl (by decide) rfl rfl dX11_rooms_30 ?_
        refine x_get (pc := 33) (T := TX10) (N := 17) (ci := 10) (v := .ref (mr 8)) E hw30 inX10 1 1 q_463 rfl rfl (by decide) rfl rfl dX11_rooms_33 ?_
        refine cl_i (pc := 36) (k1 := 1) (n1 := 1024) (wr := restW (WZ_Mrooms0 cI cJ mv mr mi mf mg) [0, 1]) hw30 [2, 3, 4, 5, 6, 7, 8, 9] [0, 1] rfl rfl (by decide) (by decide) (Nat.le_of_ble_eq_true rfl) (Nat.le_of_ble_eq_true rfl) (rn_V (As := []) (rest := []) E hw30 (t_pairUp0K l D cI cJ _ (shf 8 mr) (shf 8 mi) (shf 8 mf) (shf 8 mg) h2 (show WFF (mi 14).toInt (mf 13) from x_wf)) (gdV q_1264 q_1265 q_1266 q_154 q_1267) hdV_X1_pairUp ⟨rfl, rfl⟩ ⟨(Nat.le_of_ble_eq_true rfl), (Nat.le_of_ble_eq_true rfl)⟩ ⟨(Nat.le_of_ble_eq_true rfl), (Nat.le_of_ble_eq_true rfl)⟩ xT_b xT_at 2 1 rfl rfl rfl [2, 3, 4, 5, 6, 7, 8, 9] rfl (by decide) rfl hl3.1 rfl (Nat.le_of_ble_eq_true rfl) dX11_rooms_36) (fun r_40 u_39 H1 locs hp hw41 => ?_)
        generalize H1 = H at hw41 ⊢
        obtain ⟨b_42, k_43, Mi_44, Mf_45, Mg_46⟩ := u_39
        obtain ⟨hp_47, hp_48, hp_49, hp_50, hp_51, hp_52, hp_53, hp_54⟩ := hp
        obtain rfl : b_42 = true := hp_47
        have hw55 := hw41
        have ek0_k_43 : k_43 0 = mr 8 := hp_54 0 (by decide)
        have ek1_k_43 : k_43 1 = mr 9 := hp_54 1 (by decide)
        have ek2_k_43 : k_43 2 = mr 10 := hp_54 2 (by decide)
        have ek3_k_43 : k_43 3 = mr 11 := hp_54 3 (by decide)
        have ek4_k_43 : k_43 4 = mr 12 := hp_54 4 (by decide)
        have ek5_k_43 : k_43 5 = mr 13 := hp_54 5 (by decide)
        have ek7_k_43 : k_43 7 = mr 15 := hp_54 7 (by decide)
        have ek8_k_43 : k_43 8 = mr 16 := hp_54 8 (by decide)
        simp only [cond_true, WZ_Houses1, ek0_k_43, ek1_k_43, ek2_k_43, ek3_k_43, ek4_k_43, ek5_k_43, ek7_k_43, ek8_k_43] at hw55
        have hw56 : WD D A s.heap (WZ_rooms1 cI cJ mv (va_up mr 17 (k_43 9)) (upd mi 14 (Mi_44 6)) (va_up (va_up (va_up (va_up (va_up (va_up (va_up (va_up mf 9 (Mf_45 1)) 10 (Mf_45 2)) 11 (Mf_45 3)) 12 (Mf_45 4)) 13 (Mf_45 5)) 15 (Mf_45 7)) 16 (Mf_45 8)) 17 (Mf_45 9)) mg) H locs := hw55.sub [0, 1, 2, 3, 4, 5, 6, 7, 8, 9, 10] rfl (by decide)
        have hp_48 : 0 ≤ (Mi_44 6).toInt := hp_48
        have hp_49 : (Mi_44 6).toInt ≤ 10 := hp_49
        have hp_50 : (Mi_44 6).toInt = (mi 14).toInt := hp_50
        have hp_53 : ((r_40 : Int32).toInt = mvl (FR (mi 14).toInt (mf 13)) (2 ^ (mi 14).toInt.toNat - 1) ∧ ∀ x : Nat, (x : Int) < (mi 14).toInt → ((Mf_45 8) x).toInt = prr (FR (mi 14).toInt (mf 13)) (mi 14).toInt.toNat x (mi 14).toInt.toNat (2 ^ (mi 14).toInt.toNat - 1)) := hp_53
        refine lv_istore_n (pc := 39) (lv' := [(2, .int r_40), (0, .ref (mr 0)), (1, .int z_what)]) E.1 E.2.1 dX11_rooms_39 rfl hl3 (by decide) rfl (fun ls hl57 => ?_)
        refine lv_iload_n (pc := 40) E.1 E.2.1 dX11_rooms_40 rfl (lv_at hl57 2 rfl) ?_
        refine lv_if_ne (pc := 41) (tgt := 48) E.1 E.2.1 dX11_rooms_41 (by decide) (fun _ => ?_) (fun c_58 => absurd c_58 (mneE (a := z_what.toInt) (b := 0) rfl (by decide +kernel) (by omega)))
        refine lv_aload_n (pc := 48) E.1 E.2.1 dX11_rooms_48 rfl (lv_at hl57 1 rfl) ?_
        refine x_get (pc := 49) (T := TX11) (N := 13) (ci := 11) (v := .ref (mr 3)) E hw56 inX11 0 0 q_606 rfl rfl (by decide) rfl rfl dX11_rooms_49 ?_
        refine x_get (pc := 52) (T := TX10) (N := 17) (ci := 10) (v := .ref (mr 8)) E hw56 inX10 1 1 q_463 rfl rfl (by decide) rfl rfl dX11_rooms_52 ?_
        refine x_get (pc := 55) (T := TX1) (N := 9) (ci := 1) (v := .ref (mr 16)) E hw56 inX1 2 7 q_287 rfl rfl (by decide) rfl rfl dX11_rooms_55 ?_
        refine lv_iload_n (pc := 58) E.1 E.2.1 dX11_rooms_58 rfl (lv_at hl57 2 rfl) ?_
        refine lv_bipush (pc := 59) (v := 10) E.1 E.2.1 dX11_rooms_59 (by decide +kernel) ?_
        refine lv_isub (pc := 61) E.1 E.2.1 dX11_rooms_61 ?_
        refine lv_topi (fun v_59 ev_59 => ?_)
        have hv_59 : v_59.toInt = z_what.toInt - 10 := by rw [ev_59]; exact subE rfl (by decide +kernel) (by omega)
        refine x_iald (pc := 62) (f := (Mf_45 8)) E hw56 9 rfl (inbE (a := v_59.toInt) rfl (by omega)) dX11_rooms_62 ?_
        refine lv_topi (fun v_60 ev_60 => ?_)
        exact em_i (w1 := (fun (u : Bool × (Nat → Nat) × (Nat → Int32) × (Nat → Nat → Int32) × (Nat → Nat → Int64)) => cond u.1 (WZ_rooms1 cI cJ mv u.2.1 u.2.2.1 u.2.2.2.1 u.2.2.2.2) (WZ_Mrooms0 cI cJ mv mr u.2.2.1 u.2.2.2.1 u.2.2.2.2))) E hr hlk (true, (va_up mr 17 (k_43 9)), (upd mi 14 (Mi_44 6)), (va_up (va_up (va_up (va_up (va_up (va_up (va_up (va_up mf 9 (Mf_45 1)) 10 (Mf_45 2)) 11 (Mf_45 3)) 12 (Mf_45 4)) 13 (Mf_45 5)) 15 (Mf_45 7)) 16 (Mf_45 8)) 17 (Mf_45 9)), mg) hw56 ⟨h0.1, h0.2, h1.1, h1.2, (by show 0 ≤ (Mi_44 6).toInt; omega), (by show (Mi_44 6).toInt ≤ 10; omega), (by show (Mi_44 6).toInt = (mi 14).toInt; omega), hp_51, hp_52, (show (v_60 : Int32).toInt = RMA (mf 13) (mi 14).toInt z_what.toInt from (RM_of hp_53.2 ev_60 (by omega) ⟨by omega, by omega⟩)), (fun k hk => by show (va_up mr 17 (k_43 9)) k = mr k; simp only [va_up]; repeat rw [if_neg (by omega)])⟩ (Nat.le_of_ble_eq_true rfl) (Nat.le_of_ble_eq_true rfl) dX11_rooms_63
      · skip
        have ha_35 : v_26.toInt + 1 ≤ 0 := ha_35
        exfalso; omega
      · skip
        have ha_36 : (mi 14).toInt ≤ v_26.toInt := ha_36
        refine lv_if_ne (pc := 24) (tgt := 29) E.1 E.2.1 dX11_rooms_24 (by decide) (fun c_61 => absurd (meqE (a := 0) (b := 0) (by decide +kernel) (by decide +kernel) (by omega)) c_61) (fun _ => ?_)
        refine lv_iconst (pc := 27) (v := (-1)) E.1 E.2.1 dX11_rooms_27 (by decide +kernel) ?_
        exact em_i (w1 := (fun (u : Bool × (Nat → Nat) × (Nat → Int32) × (Nat → Nat → Int32) × (Nat → Nat → Int64)) => cond u.1 (WZ_rooms1 cI cJ mv u.2.1 u.2.2.1 u.2.2.2.1 u.2.2.2.2) (WZ_Mrooms0 cI cJ mv mr u.2.2.1 u.2.2.2.1 u.2.2.2.2))) E hr hlk (false, mr, mi, mf, mg) hw30 ⟨h0.1, h0.2, h1.1, h1.2, h2.1, h2.2, rfl, rfl, rfl, (show ((-1) : Int32).toInt = RMA (mf 13) (mi 14).toInt z_what.toInt from (RM_no (by omega) (by omega) (by decide +kernel))), (fun _ _ => rfl)⟩ (Nat.le_of_ble_eq_true rfl) (Nat.le_of_ble_eq_true rfl) dX11_rooms_28
      · skip
        have ha_37 : 10 ≤ v_26.toInt := ha_37
        refine lv_if_ne (pc := 24) (tgt := 29) E.1 E.2.1 dX11_rooms_24 (by decide) (fun c_62 => absurd (meqE (a := 0) (b := 0) (by decide +kernel) (by decide +kernel) (by omega)) c_62) (fun _ => ?_)
        refine lv_iconst (pc := 27) (v := (-1)) E.1 E.2.1 dX11_rooms_27 (by decide +kernel) ?_
        exact em_i (w1 := (fun (u : Bool × (Nat → Nat) × (Nat → Int32) × (Nat → Nat → Int32) × (Nat → Nat → Int64)) => cond u.1 (WZ_rooms1 cI cJ mv u.2.1 u.2.2.1 u.2.2.2.1 u.2.2.2.2) (WZ_Mrooms0 cI cJ mv mr u.2.2.1 u.2.2.2.1 u.2.2.2.2))) E hr hlk (false, mr, mi, mf, mg) hw30 ⟨h0.1, h0.2, h1.1, h1.2, h2.1, h2.2, rfl, rfl, rfl, (show ((-1) : Int32).toInt = RMA (mf 13) (mi 14).toInt z_what.toInt from (RM_no (by omega) (by omega) (by decide +kernel))), (fun _ _ => rfl)⟩ (Nat.le_of_ble_eq_true rfl) (Nat.le_of_ble_eq_true rfl) dX11_rooms_28
set_option maxHeartbeats 4000000 in
set_option maxRecDepth 100000 in
theorem t_planN (l : Launch) (D : va_G) (cI cJ : ClassId) (sz : Nat) (mr : Nat → Nat) (mi : Nat → Int32) (mf : Nat → Nat → Int32) (mg : Nat → Nat → Int64) (z_n : Int32) (z_what : Int32) (mv : Nat → Value) (h0 : 0 ≤ (mi 1).toInt ∧ (mi 1).toInt ≤ 5) (h1 : 0 ≤ (mi 2).toInt ∧ (mi 2).toInt ≤ 6) (h2 : 0 ≤ (mi 24).toInt ∧ (mi 24).toInt ≤ 200) (h3 : 0 ≤ (mi 32).toInt ∧ (mi 32).toInt ≤ 10) (h4 : 0 ≤ (mi 40).toInt ∧ (mi 40).toInt ≤ 40) (h5 : 0 ≤ (mi 49).toInt ∧ (mi 49).toInt ≤ 10) (h6 : 0 ≤ (mi 72).toInt ∧ (mi 72).toInt ≤ 200) (h7 : 0 ≤ (mi 79).toInt ∧ (mi 79).toInt ≤ 8) (a_p_from : p9 (mf 36)) (a_p_to : p9 (mf 37)) (a_t_marks : m4 (mf 53)) (a_u_marks : m4 (mf 63)) : Met l yX11_plan (Cond.code yX11_plan cX11_plan 4 (some .int) :: GW) ({ frames := 11, cells := 7, slots := 10390, locals := 263 } : Room) (va_Pc [.ref (mr 0), .int z_n, .int z_what] (PW D cI cJ sz (WZ_planN cI cJ mv mr mi mf mg) xT)) (va_Qi (fun (r : Int32) (u : Bool × (Nat → Nat) × (Nat → Int32) × (Nat → Nat → Int32) × (Nat → Nat → Int64)) => (0 ≤ (u.2.2.1 1).toInt) ∧ ((u.2.2.1 1).toInt ≤ 5) ∧ (0 ≤ (u.2.2.1 2).toInt) ∧ ((u.2.2.1 2).toInt ≤ 6) ∧ (0 ≤ (u.2.2.1 24).toInt) ∧ ((u.2.2.1 24).toInt ≤ 200) ∧ (0 ≤ (u.2.2.1 32).toInt) ∧ ((u.2.2.1 32).toInt ≤ 10) ∧ (0 ≤ (u.2.2.1 40).toInt) ∧ ((u.2.2.1 40).toInt ≤ 40) ∧ (0 ≤ (u.2.2.1 49).toInt) ∧ ((u.2.2.1 49).toInt ≤ 10) ∧ (0 ≤ (u.2.2.1 72).toInt) ∧ ((u.2.2.1 72).toInt ≤ 200) ∧ (0 ≤ (u.2.2.1 79).toInt) ∧ ((u.2.2.1 79).toInt ≤ 8) ∧ ((u.2.2.1 32).toInt = (mi 32).toInt) ∧ ((u.2.2.1 79).toInt = (mi 79).toInt) ∧ (p9 (u.2.2.2.1 36)) ∧ (p9 (u.2.2.2.1 37)) ∧ (m4 (u.2.2.2.1 53)) ∧ (m4 (u.2.2.2.1 63)) ∧ (w9 (u.2.2.2.1 87)) ∧ (s1k (u.2.2.2.1 89)) ∧ (s1k (u.2.2.2.1 90)) ∧ ((Eq (mf 27)) (u.2.2.2.1 27)) ∧ ((Eq (mf 31)) (u.2.2.2.1 31)) ∧ (∀ k : Nat, k < 80 → u.2.1 k = mr k)) (fun u => QW D cI cJ (va_A (WZ_planN cI cJ mv mr mi mf mg) sz) ((fun (u : Bool × (Nat → Nat) × (Nat → Int32) × (Nat → Nat → Int32) × (Nat → Nat → Int64)) => cond u.1 (WZ_MplanP cI cJ mv u.2.1 u.2.2.1 u.2.2.2.1 u.2.2.2.2) (WZ_planN cI cJ mv mr u.2.2.1 u.2.2.2.1 u.2.2.2.2)) u)) (va_A (WZ_planN cI cJ mv mr mi mf mg) sz)) 7 10390 (va_A (WZ_planN cI cJ mv mr mi mf mg) sz) := by
  refine mk_met (y := yX11_plan) (bytes := cX11_plan) (maxL := 4) (avs := [.ref (mr 0), .int z_n, .int z_what]) (WS := (WZ_planN cI cJ mv mr mi mf mg)) (Qf := fun A => va_Qi (fun (r : Int32) (u : Bool × (Nat → Nat) × (Nat → Int32) × (Nat → Nat → Int32) × (Nat → Nat → Int64)) => (0 ≤ (u.2.2.1 1).toInt) ∧ ((u.2.2.1 1).toInt ≤ 5) ∧ (0 ≤ (u.2.2.1 2).toInt) ∧ ((u.2.2.1 2).toInt ≤ 6) ∧ (0 ≤ (u.2.2.1 24).toInt) ∧ ((u.2.2.1 24).toInt ≤ 200) ∧ (0 ≤ (u.2.2.1 32).toInt) ∧ ((u.2.2.1 32).toInt ≤ 10) ∧ (0 ≤ (u.2.2.1 40).toInt) ∧ ((u.2.2.1 40).toInt ≤ 40) ∧ (0 ≤ (u.2.2.1 49).toInt) ∧ ((u.2.2.1 49).toInt ≤ 10) ∧ (0 ≤ (u.2.2.1 72).toInt) ∧ ((u.2.2.1 72).toInt ≤ 200) ∧ (0 ≤ (u.2.2.1 79).toInt) ∧ ((u.2.2.1 79).toInt ≤ 8) ∧ ((u.2.2.1 32).toInt = (mi 32).toInt) ∧ ((u.2.2.1 79).toInt = (mi 79).toInt) ∧ (p9 (u.2.2.2.1 36)) ∧ (p9 (u.2.2.2.1 37)) ∧ (m4 (u.2.2.2.1 53)) ∧ (m4 (u.2.2.2.1 63)) ∧ (w9 (u.2.2.2.1 87)) ∧ (s1k (u.2.2.2.1 89)) ∧ (s1k (u.2.2.2.1 90)) ∧ ((Eq (mf 27)) (u.2.2.2.1 27)) ∧ ((Eq (mf 31)) (u.2.2.2.1 31)) ∧ (∀ k : Nat, k < 80 → u.2.1 k = mr k)) (fun u => QW D cI cJ A ((fun (u : Bool × (Nat → Nat) × (Nat → Int32) × (Nat → Nat → Int32) × (Nat → Nat → Int64)) => cond u.1 (WZ_MplanP cI cJ mv u.2.1 u.2.2.1 u.2.2.2.1 u.2.2.2.2) (WZ_planN cI cJ mv mr u.2.2.1 u.2.2.2.1 u.2.2.2.2)) u)) A) (by decide) (Nat.le_of_ble_eq_true rfl) ?_
  intro p e s m below meth c A ls E hr hlk hnm hX hw1 hl2
  have hl3 : lv_has ls 4 [(0, .ref (mr 0)), (1, .int z_n), (2, .int z_what)] := hl2
  have hwm := Int32.toInt_lt z_what
  refine lv_iload_n (pc := 0) E.1 E.2.1 dX11_plan_0 rfl (lv_at hl3 2 rfl) ?_
  refine lv_if_eq (pc := 1) (tgt := 23) E.1 E.2.1 dX11_plan_1 (by decide) (fun c_4 => ?_) (fun c_4 => ?_)
  · skip
    have hc_4 := eqE (a := z_what.toInt) (b := 0) rfl (by decide +kernel) c_4
    refine lv_iconst (pc := 23) (v := 1) E.1 E.2.1 dX11_plan_23 (by decide +kernel) ?_
    refine lv_goto (pc := 24) (tgt := 28) E.1 E.2.1 dX11_plan_24 (by decide) ?_
    refine lv_istore_n (pc := 28) (lv' := [(3, .int 1), (0, .ref (mr 0)), (1, .int z_n), (2, .int z_what)]) E.1 E.2.1 dX11_plan_28 rfl hl3 (by decide) rfl (fun ls hl5 => ?_)
    refine lv_iload_n (pc := 29) E.1 E.2.1 dX11_plan_29 rfl (lv_at hl5 2 rfl) ?_
    refine lv_iconst (pc := 30) (v := 1) E.1 E.2.1 dX11_plan_30 (by decide +kernel) ?_
    refine lv_icmp_lt (pc := 31) (tgt := 57) E.1 E.2.1 dX11_plan_31 (by decide) (fun c_6 => ?_) (fun c_6 => ?_)
    · skip
      have hc_6 := ltE (a := z_n.toInt) (b := 1) rfl (by decide +kernel) c_6
      refine lv_iconst (pc := 57) (v := (-1)) E.1 E.2.1 dX11_plan_57 (by decide +kernel) ?_
      exact em_i (w1 := (fun (u : Bool × (Nat → Nat) × (Nat → Int32) × (Nat → Nat → Int32) × (Nat → Nat → Int64)) => cond u.1 (WZ_MplanP cI cJ mv u.2.1 u.2.2.1 u.2.2.2.1 u.2.2.2.2) (WZ_planN cI cJ mv mr u.2.2.1 u.2.2.2.1 u.2.2.2.2))) E hr hlk (false, mr, mi, (va_up (va_up (va_up mf 87 (fun _ => 0)) 89 (fun _ => 0)) 90 (fun _ => 0)), mg) hw1 ⟨h0.1, h0.2, h1.1, h1.2, h2.1, h2.2, h3.1, h3.2, h4.1, h4.2, h5.1, h5.2, h6.1, h6.2, h7.1, h7.2, rfl, rfl, a_p_from, a_p_to, a_t_marks, a_u_marks, (allR_0 (by decide)), (allR_0 (by decide)), (allR_0 (by decide)), rfl, rfl, (fun _ _ => rfl)⟩ (Nat.le_of_ble_eq_true rfl) (Nat.le_of_ble_eq_true rfl) dX11_plan_58
    · skip
      have hc_6 := nltE (a := z_n.toInt) (b := 1) rfl (by decide +kernel) c_6
      refine lv_iload_n (pc := 34) E.1 E.2.1 dX11_plan_34 rfl (lv_at hl5 2 rfl) ?_
      refine lv_bipush (pc := 35) (v := 10) E.1 E.2.1 dX11_plan_35 (by decide +kernel) ?_
      refine lv_icmp_gt (pc := 37) (tgt := 57) E.1 E.2.1 dX11_plan_37 (by decide) (fun c_7 => ?_) (fun c_7 => ?_)
      · skip
        have hc_7 := ltE (a := 10) (b := z_n.toInt) (by decide +kernel) rfl c_7
        refine lv_iconst (pc := 57) (v := (-1)) E.1 E.2.1 dX11_plan_57 (by decide +kernel) ?_
        exact em_i (w1 := (fun (u : Bool × (Nat → Nat) × (Nat → Int32) × (Nat → Nat → Int32) × (Nat → Nat → Int64)) => cond u.1 (WZ_MplanP cI cJ mv u.2.1 u.2.2.1 u.2.2.2.1 u.2.2.2.2) (WZ_planN cI cJ mv mr u.2.2.1 u.2.2.2.1 u.2.2.2.2))) E hr hlk (false, mr, mi, (va_up (va_up (va_up mf 87 (fun _ => 0)) 89 (fun _ => 0)) 90 (fun _ => 0)), mg) hw1 ⟨h0.1, h0.2, h1.1, h1.2, h2.1, h2.2, h3.1, h3.2, h4.1, h4.2, h5.1, h5.2, h6.1, h6.2, h7.1, h7.2, rfl, rfl, a_p_from, a_p_to, a_t_marks, a_u_marks, (allR_0 (by decide)), (allR_0 (by decide)), (allR_0 (by decide)), rfl, rfl, (fun _ _ => rfl)⟩ (Nat.le_of_ble_eq_true rfl) (Nat.le_of_ble_eq_true rfl) dX11_plan_58
      · skip
        have hc_7 := nltE (a := 10) (b := z_n.toInt) (by decide +kernel) rfl c_7
        refine lv_iload_n (pc := 40) E.1 E.2.1 dX11_plan_40 rfl (lv_at hl5 0 rfl) ?_
        refine lv_if_eq (pc := 41) (tgt := 57) E.1 E.2.1 dX11_plan_41 (by decide) (fun c_8 => absurd c_8 (mneE (a := 1) (b := 0) (by decide +kernel) (by decide +kernel) (by omega))) (fun _ => ?_)
        refine lv_aload_n (pc := 44) E.1 E.2.1 dX11_plan_44 rfl (lv_at hl5 1 rfl) ?_
        refine x_get (pc := 45) (T := TX11) (N := 13) (ci := 11) (v := .ref (mr 3)) E hw1 inX11 0 0 q_606 rfl rfl (by decide) rfl rfl dX11_plan_45 ?_
        refine x_get (pc := 48) (T := TX10) (N := 17) (ci := 10) (v := .ref (mr 26)) E hw1 inX10 1 1 q_463 rfl rfl (by decide) rfl rfl dX11_plan_48 ?_
        refine x_get (pc := 51) (T := TX1) (N := 9) (ci := 1) (v := .int (mi 32)) E hw1 inX1 13 5 q_282 rfl rfl (by decide) rfl rfl dX11_plan_51 ?_
        refine lv_if_ne (pc := 54) (tgt := 59) E.1 E.2.1 dX11_plan_54 (by decide) (fun c_9 => ?_) (fun c_9 => ?_)
        · skip
          have hc_9 := neE (a := (mi 32).toInt) (b := 0) rfl (by decide +kernel) c_9
          refine lv_aload_n (pc := 59) E.1 E.2.1 dX11_plan_59 rfl (lv_at hl5 1 rfl) ?_
          refine x_get (pc := 60) (T := TX11) (N := 13) (ci := 11) (v := .null) E hw1 inX11 0 11 q_617 rfl rfl (by decide) rfl rfl dX11_plan_60 ?_
          refine lv_ifnonnullN (pc := 63) E.1 E.2.1 dX11_plan_63 ?_
          refine lv_aload_n (pc := 66) E.1 E.2.1 dX11_plan_66 rfl (lv_at hl5 1 rfl) ?_
          refine x_new (pc := 67) (T := TX6) (N := 10) (ci := 6) (k1 := 1) (n1 := 10) E hw1 inX6 tyX6_ok q_1154 q_1155 q_170 rfl dfX6 (Nat.le_of_ble_eq_true rfl) (Nat.le_of_ble_eq_true rfl) (Nat.le_of_ble_eq_true rfl) (Nat.le_of_ble_eq_true rfl) dX11_plan_67 (fun q_10 H hw11 => ?_)
          refine lv_dup (pc := 70) E.1 E.2.1 dX11_plan_70 rfl ?_
          refine cl_v (pc := 71) (k1 := 7) (n1 := 10390) (wr := (WZ_planN cI cJ mv mr mi mf mg)) hw11 [51] [0, 1, 2, 3, 4, 5, 6, 7, 8, 9, 10, 11, 12, 13, 14, 15, 16, 17, 18, 19, 20, 21, 22, 23, 24, 25, 26, 27, 28, 29, 30, 31, 32, 33, 34, 35, 36, 37, 38, 39, 40, 41, 42, 43, 44, 45, 46, 47, 48, 49, 50] rfl rfl (by decide) (by decide) (Nat.le_of_ble_eq_true rfl) (Nat.le_of_ble_eq_true rfl) (rn_I (As := []) (rest := [.ref q_10, .ref (mr 0)]) E hw11 (c_X6_init l D cI cJ _ q_10) q_1158 q_170 q_1156 q_1157 hdI_X6_init rfl ⟨rfl, rfl⟩ ⟨(Nat.le_of_ble_eq_true rfl), (Nat.le_of_ble_eq_true rfl)⟩ ⟨(Nat.le_of_ble_eq_true rfl), (Nat.le_of_ble_eq_true rfl)⟩ xT_b xT_at [51] rfl (by decide) rfl hl5.1 rfl (Nat.le_of_ble_eq_true rfl) dX11_plan_71) (fun u_12 H1 locs hp hw13 => ?_)
          generalize H1 = H at hw13 ⊢
          refine x_put (pc := 74) (T := TX11) (N := 13) (ci := 11) E hw13 inX11 tyX11_ok nmX11 0 11 q_617 rfl rfl (by decide) rfl rfl rfl rfl (Nat.le_of_ble_eq_true rfl) rfl dX11_plan_74 (fun H locs hw14 => ?_)
          have hz_15 : w9 (fun _ => 0) := allR_0 (by decide)
          have hz_16 : s1k (fun _ => 0) := allR_0 (by decide)
          have hz_17 : s1k (fun _ => 0) := allR_0 (by decide)
          have hw18 : WD D A s.heap (WZ_MplanP cI cJ mv (va_up (va_up (va_up (va_up (va_up (va_up (va_up mr 80 q_10) 84 u_12.1) 85 u_12.2.1) 86 u_12.2.2.1) 87 u_12.2.2.2.1) 89 u_12.2.2.2.2.1) 90 u_12.2.2.2.2.2) (upd (upd (upd mi 81 0) 82 0) 88 0) (va_up (va_up (va_up (va_up mf 86 (fun _ => 0)) 87 (fun _ => 0)) 89 (fun _ => 0)) 90 (fun _ => 0)) (va_up (va_up (va_up mg 83 (fun _ => 0)) 84 (fun _ => 0)) 85 (fun _ => 0))) H locs := hw14.sub [0, 1, 2, 3, 4, 5, 6, 7, 8, 9, 10, 11, 12, 13, 14, 15, 16, 17, 18, 19, 20, 21, 22, 23, 24, 25, 26, 27, 28, 29, 30, 31, 32, 33, 34, 35, 36, 37, 38, 39, 40, 41, 42, 43, 44, 45, 46, 47, 48, 49, 50, 51, 52, 53, 54, 55, 56, 57] rfl (by decide)
          refine lv_aload_n (pc := 77) E.1 E.2.1 dX11_plan_77 rfl (lv_at hl5 1 rfl) ?_
          refine x_get (pc := 78) (T := TX11) (N := 13) (ci := 11) (v := .ref q_10) E hw18 inX11 0 11 q_617 rfl rfl (by decide) rfl rfl dX11_plan_78 ?_
          refine x_get (pc := 81) (T := TX6) (N := 10) (ci := 6) (v := .int 0) E hw18 inX6 51 0 q_1161 rfl rfl (by decide) rfl rfl dX11_plan_81 ?_
          refine lv_iload_n (pc := 84) E.1 E.2.1 dX11_plan_84 rfl (lv_at hl5 2 rfl) ?_
          refine lv_icmp_eq (pc := 85) (tgt := 100) E.1 E.2.1 dX11_plan_85 (by decide) (fun c_19 => absurd c_19 (mneE (a := 0) (b := z_n.toInt) (by decide +kernel) rfl (by omega))) (fun _ => ?_)
          refine lv_aload_n (pc := 88) E.1 E.2.1 dX11_plan_88 rfl (lv_at hl5 1 rfl) ?_
          refine x_get (pc := 89) (T := TX11) (N := 13) (ci := 11) (v := .ref q_10) E hw18 inX11 0 11 q_617 rfl rfl (by decide) rfl rfl dX11_plan_89 ?_
          refine lv_aload_n (pc := 92) E.1 E.2.1 dX11_plan_92 rfl (lv_at hl5 1 rfl) ?_
          refine x_get (pc := 93) (T := TX11) (N := 13) (ci := 11) (v := .ref (mr 3)) E hw18 inX11 0 0 q_606 rfl rfl (by decide) rfl rfl dX11_plan_93 ?_
          refine lv_iload_n (pc := 96) E.1 E.2.1 dX11_plan_96 rfl (lv_at hl5 2 rfl) ?_
          refine cq_v (pc := 97) (ws' := (fun (u : Int32 × (Nat → Int32) × (Nat → Int32) × (Nat → Int64) × (Nat → Int64) × (Nat → Int32) × (Nat → Int32) × Int32 × (Nat → Int64) × Int32 × (Nat → Int32) × (Nat → Int32)) => (WZ_MplanP cI cJ mv (va_up (va_up (va_up (va_up (va_up (va_up (va_up mr 80 q_10) 84 u_12.1) 85 u_12.2.1) 86 u_12.2.2.1) 87 u_12.2.2.2.1) 89 u_12.2.2.2.2.1) 90 u_12.2.2.2.2.2) (upd (upd (upd mi 81 u.2.2.2.2.2.2.2.2.2.1) 82 u.2.2.2.2.2.2.2.1) 88 u.1) (va_up (va_up (va_up (va_up (va_up (va_up mf 41 u.2.2.2.2.2.2.2.2.2.2.1) 42 u.2.2.2.2.2.2.2.2.2.2.2) 86 u.2.2.1) 87 u.2.1) 89 u.2.2.2.2.2.1) 90 u.2.2.2.2.2.2.1) (va_up (va_up (va_up mg 83 u.2.2.2.2.2.2.2.2.1) 84 u.2.2.2.1) 85 u.2.2.2.2.1)))) hw18 [51, 52, 53, 54, 55, 56, 57, 1, 2, 3, 4, 5, 6, 7, 8, 9, 10, 11, 12, 13, 14, 15, 16, 17, 18, 19, 20, 21, 22, 23, 24, 25, 26, 27, 28, 29, 30, 31, 32, 33, 34, 35, 36, 37, 38, 39, 40, 41, 42, 43, 44, 45, 46, 47, 48, 49, 50] [0] [0, 8, 9, 10, 11, 12, 13, 14, 15, 16, 17, 18, 19, 20, 21, 22, 23, 24, 25, 26, 27, 28, 29, 30, 31, 32, 33, 34, 35, 36, 37, 38, 39, 40, 41, 42, 43, 44, 45, 46, 47, 48, 49, 50, 51, 52, 53, 54, 55, 56, 57, 1, 2, 3, 4, 5, 6, 7] rfl rfl (by decide) (by decide) (fun _ => rfl) (by decide) (rn_V (As := [.ref (mr 3), .int z_n]) (rest := []) E hw18 (t_search l D cI cJ _ (shs [(0, 80, 11), (11, 3, 77)] (va_up (va_up (va_up (va_up (va_up (va_up (va_up mr 80 q_10) 84 u_12.1) 85 u_12.2.1) 86 u_12.2.2.1) 87 u_12.2.2.2.1) 89 u_12.2.2.2.2.1) 90 u_12.2.2.2.2.2)) (shs [(0, 80, 11), (11, 3, 77)] (upd (upd (upd mi 81 0) 82 0) 88 0)) (shs [(0, 80, 11), (11, 3, 77)] (va_up (va_up (va_up (va_up mf 86 (fun _ => 0)) 87 (fun _ => 0)) 89 (fun _ => 0)) 90 (fun _ => 0))) (shs [(0, 80, 11), (11, 3, 77)] (va_up (va_up (va_up mg 83 (fun _ => 0)) 84 (fun _ => 0)) 85 (fun _ => 0))) z_n (vl [mv 9]) h3 h4 h5 (by show 1 ≤ z_n.toInt ∧ z_n.toInt ≤ 10; omega) a_p_from a_p_to hz_15 hz_16 hz_17) (gdV q_1193 q_1194 q_1195 q_170 q_1196) hdV_X6_search ⟨rfl, rfl⟩ ⟨(Nat.le_of_ble_eq_true rfl), (Nat.le_of_ble_eq_true rfl)⟩ ⟨(Nat.le_of_ble_eq_true rfl), (Nat.le_of_ble_eq_true rfl)⟩ xT_b xT_at 51 6 rfl rfl rfl [51, 52, 53, 54, 55, 56, 57, 1, 2, 3, 4, 5, 6, 7, 8, 9, 10, 11, 12, 13, 14, 15, 16, 17, 18, 19, 20, 21, 22, 23, 24, 25, 26, 27, 28, 29, 30, 31, 32, 33, 34, 35, 36, 37, 38, 39, 40, 41, 42, 43, 44, 45, 46, 47, 48, 49, 50] rfl (by decide) rfl hl5.1 rfl (Nat.le_of_ble_eq_true rfl) dX11_plan_97) (fun u_20 H1 locs hp hw22 => ?_)
          obtain ⟨nwants_23, gwanted_24, ghops_25, gcosts_26, glifted_27, gserved_28, gwed_29, nmostWorth_30, gleastCost_31, nplanned_32, gpmeasured_33, gpmeasuredIn_34⟩ := u_20
          generalize H1 = H at hw22 ⊢
          have hw35 : WD D A s.heap (WZ_MplanP cI cJ mv (va_up (va_up (va_up (va_up (va_up (va_up (va_up mr 80 q_10) 84 u_12.1) 85 u_12.2.1) 86 u_12.2.2.1) 87 u_12.2.2.2.1) 89 u_12.2.2.2.2.1) 90 u_12.2.2.2.2.2) (upd (upd (upd mi 81 nplanned_32) 82 nmostWorth_30) 88 nwants_23) (va_up (va_up (va_up (va_up (va_up (va_up mf 41 gpmeasured_33) 42 gpmeasuredIn_34) 86 ghops_25) 87 gwanted_24) 89 gserved_28) 90 gwed_29) (va_up (va_up (va_up mg 83 gleastCost_31) 84 gcosts_26) 85 glifted_27)) H locs := hw22
          obtain ⟨hp_36, hp_37, hp_38, hp_39, hp_40, hp_41⟩ := hp
          have hp_36 : nplanned_32.toInt = z_n.toInt := hp_36
          have hp_37 : 0 ≤ nwants_23.toInt := hp_37
          have hp_38 : nwants_23.toInt ≤ 10 := hp_38
          refine lv_iload_n (pc := 100) E.1 E.2.1 dX11_plan_100 rfl (lv_at hl5 3 rfl) ?_
          refine lv_if_ne (pc := 101) (tgt := 112) E.1 E.2.1 dX11_plan_101 (by decide) (fun c_42 => absurd (meqE (a := z_what.toInt) (b := 0) rfl (by decide +kernel) (by omega)) c_42) (fun _ => ?_)
          refine lv_aload_n (pc := 104) E.1 E.2.1 dX11_plan_104 rfl (lv_at hl5 1 rfl) ?_
          refine x_get (pc := 105) (T := TX11) (N := 13) (ci := 11) (v := .ref q_10) E hw35 inX11 0 11 q_617 rfl rfl (by decide) rfl rfl dX11_plan_105 ?_
          refine x_get (pc := 108) (T := TX6) (N := 10) (ci := 6) (v := .int nmostWorth_30) E hw35 inX6 51 1 q_1163 rfl rfl (by decide) rfl rfl dX11_plan_108 ?_
          exact em_i (w1 := (fun (u : Bool × (Nat → Nat) × (Nat → Int32) × (Nat → Nat → Int32) × (Nat → Nat → Int64)) => cond u.1 (WZ_MplanP cI cJ mv u.2.1 u.2.2.1 u.2.2.2.1 u.2.2.2.2) (WZ_planN cI cJ mv mr u.2.2.1 u.2.2.2.1 u.2.2.2.2))) E hr hlk (true, (va_up (va_up (va_up (va_up (va_up (va_up (va_up mr 80 q_10) 84 u_12.1) 85 u_12.2.1) 86 u_12.2.2.1) 87 u_12.2.2.2.1) 89 u_12.2.2.2.2.1) 90 u_12.2.2.2.2.2), (upd (upd (upd mi 81 nplanned_32) 82 nmostWorth_30) 88 nwants_23), (va_up (va_up (va_up (va_up (va_up (va_up mf 41 gpmeasured_33) 42 gpmeasuredIn_34) 86 ghops_25) 87 gwanted_24) 89 gserved_28) 90 gwed_29), (va_up (va_up (va_up mg 83 gleastCost_31) 84 gcosts_26) 85 glifted_27)) hw35 ⟨h0.1, h0.2, h1.1, h1.2, h2.1, h2.2, h3.1, h3.2, h4.1, h4.2, h5.1, h5.2, h6.1, h6.2, h7.1, h7.2, rfl, rfl, a_p_from, a_p_to, a_t_marks, a_u_marks, hp_41, hp_39, hp_40, rfl, rfl, (fun k hk => by show (va_up (va_up (va_up (va_up (va_up (va_up (va_up mr 80 q_10) 84 u_12.1) 85 u_12.2.1) 86 u_12.2.2.1) 87 u_12.2.2.2.1) 89 u_12.2.2.2.2.1) 90 u_12.2.2.2.2.2) k = mr k; simp only [va_up]; repeat rw [if_neg (by omega)])⟩ (Nat.le_of_ble_eq_true rfl) (Nat.le_of_ble_eq_true rfl) dX11_plan_111
        · skip
          have hc_9 := eqE (a := (mi 32).toInt) (b := 0) rfl (by decide +kernel) c_9
          refine lv_iconst (pc := 57) (v := (-1)) E.1 E.2.1 dX11_plan_57 (by decide +kernel) ?_
          exact em_i (w1 := (fun (u : Bool × (Nat → Nat) × (Nat → Int32) × (Nat → Nat → Int32) × (Nat → Nat → Int64)) => cond u.1 (WZ_MplanP cI cJ mv u.2.1 u.2.2.1 u.2.2.2.1 u.2.2.2.2) (WZ_planN cI cJ mv mr u.2.2.1 u.2.2.2.1 u.2.2.2.2))) E hr hlk (false, mr, mi, (va_up (va_up (va_up mf 87 (fun _ => 0)) 89 (fun _ => 0)) 90 (fun _ => 0)), mg) hw1 ⟨h0.1, h0.2, h1.1, h1.2, h2.1, h2.2, h3.1, h3.2, h4.1, h4.2, h5.1, h5.2, h6.1, h6.2, h7.1, h7.2, rfl, rfl, a_p_from, a_p_to, a_t_marks, a_u_marks, (allR_0 (by decide)), (allR_0 (by decide)), (allR_0 (by decide)), rfl, rfl, (fun _ _ => rfl)⟩ (Nat.le_of_ble_eq_true rfl) (Nat.le_of_ble_eq_true rfl) dX11_plan_58
  · skip
    have hc_4 := neE (a := z_what.toInt) (b := 0) rfl (by decide +kernel) c_4
    refine lv_iload_n (pc := 4) E.1 E.2.1 dX11_plan_4 rfl (lv_at hl3 2 rfl) ?_
    refine lv_iconst (pc := 5) (v := 1) E.1 E.2.1 dX11_plan_5 (by decide +kernel) ?_
    refine lv_icmp_eq (pc := 6) (tgt := 23) E.1 E.2.1 dX11_plan_6 (by decide) (fun c_43 => ?_) (fun c_43 => ?_)
    · skip
      have hc_43 := eqE (a := z_what.toInt) (b := 1) rfl (by decide +kernel) c_43
      refine lv_iconst (pc := 23) (v := 1) E.1 E.2.1 dX11_plan_23 (by decide +kernel) ?_
      refine lv_goto (pc := 24) (tgt := 28) E.1 E.2.1 dX11_plan_24 (by decide) ?_
      refine lv_istore_n (pc := 28) (lv' := [(3, .int 1), (0, .ref (mr 0)), (1, .int z_n), (2, .int z_what)]) E.1 E.2.1 dX11_plan_28 rfl hl3 (by decide) rfl (fun ls hl44 => ?_)
      refine lv_iload_n (pc := 29) E.1 E.2.1 dX11_plan_29 rfl (lv_at hl44 2 rfl) ?_
      refine lv_iconst (pc := 30) (v := 1) E.1 E.2.1 dX11_plan_30 (by decide +kernel) ?_
      refine lv_icmp_lt (pc := 31) (tgt := 57) E.1 E.2.1 dX11_plan_31 (by decide) (fun c_45 => ?_) (fun c_45 => ?_)
      · skip
        have hc_45 := ltE (a := z_n.toInt) (b := 1) rfl (by decide +kernel) c_45
        refine lv_iconst (pc := 57) (v := (-1)) E.1 E.2.1 dX11_plan_57 (by decide +kernel) ?_
        exact em_i (w1 := (fun (u : Bool × (Nat → Nat) × (Nat → Int32) × (Nat → Nat → Int32) × (Nat → Nat → Int64)) => cond u.1 (WZ_MplanP cI cJ mv u.2.1 u.2.2.1 u.2.2.2.1 u.2.2.2.2) (WZ_planN cI cJ mv mr u.2.2.1 u.2.2.2.1 u.2.2.2.2))) E hr hlk (false, mr, mi, (va_up (va_up (va_up mf 87 (fun _ => 0)) 89 (fun _ => 0)) 90 (fun _ => 0)), mg) hw1 ⟨h0.1, h0.2, h1.1, h1.2, h2.1, h2.2, h3.1, h3.2, h4.1, h4.2, h5.1, h5.2, h6.1, h6.2, h7.1, h7.2, rfl, rfl, a_p_from, a_p_to, a_t_marks, a_u_marks, (allR_0 (by decide)), (allR_0 (by decide)), (allR_0 (by decide)), rfl, rfl, (fun _ _ => rfl)⟩ (Nat.le_of_ble_eq_true rfl) (Nat.le_of_ble_eq_true rfl) dX11_plan_58
      · skip
        have hc_45 := nltE (a := z_n.toInt) (b := 1) rfl (by decide +kernel) c_45
        refine lv_iload_n (pc := 34) E.1 E.2.1 dX11_plan_34 rfl (lv_at hl44 2 rfl) ?_
        refine lv_bipush (pc := 35) (v := 10) E.1 E.2.1 dX11_plan_35 (by decide +kernel) ?_
        refine lv_icmp_gt (pc := 37) (tgt := 57) E.1 E.2.1 dX11_plan_37 (by decide) (fun c_46 => ?_) (fun c_46 => ?_)
        · skip
          have hc_46 := ltE (a := 10) (b := z_n.toInt) (by decide +kernel) rfl c_46
          refine lv_iconst (pc := 57) (v := (-1)) E.1 E.2.1 dX11_plan_57 (by decide +kernel) ?_
          exact em_i (w1 := (fun (u : Bool × (Nat → Nat) × (Nat → Int32) × (Nat → Nat → Int32) × (Nat → Nat → Int64)) => cond u.1 (WZ_MplanP cI cJ mv u.2.1 u.2.2.1 u.2.2.2.1 u.2.2.2.2) (WZ_planN cI cJ mv mr u.2.2.1 u.2.2.2.1 u.2.2.2.2))) E hr hlk (false, mr, mi, (va_up (va_up (va_up mf 87 (fun _ => 0)) 89 (fun _ => 0)) 90 (fun _ => 0)), mg) hw1 ⟨h0.1, h0.2, h1.1, h1.2, h2.1, h2.2, h3.1, h3.2, h4.1, h4.2, h5.1, h5.2, h6.1, h6.2, h7.1, h7.2, rfl, rfl, a_p_from, a_p_to, a_t_marks, a_u_marks, (allR_0 (by decide)), (allR_0 (by decide)), (allR_0 (by decide)), rfl, rfl, (fun _ _ => rfl)⟩ (Nat.le_of_ble_eq_true rfl) (Nat.le_of_ble_eq_true rfl) dX11_plan_58
        · skip
          have hc_46 := nltE (a := 10) (b := z_n.toInt) (by decide +kernel) rfl c_46
          refine lv_iload_n (pc := 40) E.1 E.2.1 dX11_plan_40 rfl (lv_at hl44 0 rfl) ?_
          refine lv_if_eq (pc := 41) (tgt := 57) E.1 E.2.1 dX11_plan_41 (by decide) (fun c_47 => absurd c_47 (mneE (a := 1) (b := 0) (by decide +kernel) (by decide +kernel) (by omega))) (fun _ => ?_)
          refine lv_aload_n (pc := 44) E.1 E.2.1 dX11_plan_44 rfl (lv_at hl44 1 rfl) ?_
          refine x_get (pc := 45) (T := TX11) (N := 13) (ci := 11) (v := .ref (mr 3)) E hw1 inX11 0 0 q_606 rfl rfl (by decide) rfl rfl dX11_plan_45 ?_
          refine x_get (pc := 48) (T := TX10) (N := 17) (ci := 10) (v := .ref (mr 26)) E hw1 inX10 1 1 q_463 rfl rfl (by decide) rfl rfl dX11_plan_48 ?_
          refine x_get (pc := 51) (T := TX1) (N := 9) (ci := 1) (v := .int (mi 32)) E hw1 inX1 13 5 q_282 rfl rfl (by decide) rfl rfl dX11_plan_51 ?_
          refine lv_if_ne (pc := 54) (tgt := 59) E.1 E.2.1 dX11_plan_54 (by decide) (fun c_48 => ?_) (fun c_48 => ?_)
          · skip
            have hc_48 := neE (a := (mi 32).toInt) (b := 0) rfl (by decide +kernel) c_48
            refine lv_aload_n (pc := 59) E.1 E.2.1 dX11_plan_59 rfl (lv_at hl44 1 rfl) ?_
            refine x_get (pc := 60) (T := TX11) (N := 13) (ci := 11) (v := .null) E hw1 inX11 0 11 q_617 rfl rfl (by decide) rfl rfl dX11_plan_60 ?_
            refine lv_ifnonnullN (pc := 63) E.1 E.2.1 dX11_plan_63 ?_
            refine lv_aload_n (pc := 66) E.1 E.2.1 dX11_plan_66 rfl (lv_at hl44 1 rfl) ?_
            refine x_new (pc := 67) (T := TX6) (N := 10) (ci := 6) (k1 := 1) (n1 := 10) E hw1 inX6 tyX6_ok q_1154 q_1155 q_170 rfl dfX6 (Nat.le_of_ble_eq_true rfl) (Nat.le_of_ble_eq_true rfl) (Nat.le_of_ble_eq_true rfl) (Nat.le_of_ble_eq_true rfl) dX11_plan_67 (fun q_49 H hw50 => ?_)
            refine lv_dup (pc := 70) E.1 E.2.1 dX11_plan_70 rfl ?_
            refine cl_v (pc := 71) (k1 := 7) (n1 := 10390) (wr := (WZ_planN cI cJ mv mr mi mf mg)) hw50 [51] [0, 1, 2, 3, 4, 5, 6, 7, 8, 9, 10, 11, 12, 13, 14, 15, 16, 17, 18, 19, 20, 21, 22, 23, 24, 25, 26, 27, 28, 29, 30, 31, 32, 33, 34, 35, 36, 37, 38, 39, 40, 41, 42, 43, 44, 45, 46, 47, 48, 49, 50] rfl rfl (by decide) (by decide) (Nat.le_of_ble_eq_true rfl) (Nat.le_of_ble_eq_true rfl) (rn_I (As := []) (rest := [.ref q_49, .ref (mr 0)]) E hw50 (c_X6_init l D cI cJ _ q_49) q_1158 q_170 q_1156 q_1157 hdI_X6_init rfl ⟨rfl, rfl⟩ ⟨(Nat.le_of_ble_eq_true rfl), (Nat.le_of_ble_eq_true rfl)⟩ ⟨(Nat.le_of_ble_eq_true rfl), (Nat.le_of_ble_eq_true rfl)⟩ xT_b xT_at [51] rfl (by decide) rfl hl44.1 rfl (Nat.le_of_ble_eq_true rfl) dX11_plan_71) (fun u_51 H1 locs hp hw52 => ?_)
            generalize H1 = H at hw52 ⊢
            refine x_put (pc := 74) (T := TX11) (N := 13) (ci := 11) E hw52 inX11 tyX11_ok nmX11 0 11 q_617 rfl rfl (by decide) rfl rfl rfl rfl (Nat.le_of_ble_eq_true rfl) rfl dX11_plan_74 (fun H locs hw53 => ?_)
            have hz_54 : w9 (fun _ => 0) := allR_0 (by decide)
            have hz_55 : s1k (fun _ => 0) := allR_0 (by decide)
            have hz_56 : s1k (fun _ => 0) := allR_0 (by decide)
            have hw57 : WD D A s.heap (WZ_MplanP cI cJ mv (va_up (va_up (va_up (va_up (va_up (va_up (va_up mr 80 q_49) 84 u_51.1) 85 u_51.2.1) 86 u_51.2.2.1) 87 u_51.2.2.2.1) 89 u_51.2.2.2.2.1) 90 u_51.2.2.2.2.2) (upd (upd (upd mi 81 0) 82 0) 88 0) (va_up (va_up (va_up (va_up mf 86 (fun _ => 0)) 87 (fun _ => 0)) 89 (fun _ => 0)) 90 (fun _ => 0)) (va_up (va_up (va_up mg 83 (fun _ => 0)) 84 (fun _ => 0)) 85 (fun _ => 0))) H locs := hw53.sub [0, 1, 2, 3, 4, 5, 6, 7, 8, 9, 10, 11, 12, 13, 14, 15, 16, 17, 18, 19, 20, 21, 22, 23, 24, 25, 26, 27, 28, 29, 30, 31, 32, 33, 34, 35, 36, 37, 38, 39, 40, 41, 42, 43, 44, 45, 46, 47, 48, 49, 50, 51, 52, 53, 54, 55, 56, 57] rfl (by decide)
            refine lv_aload_n (pc := 77) E.1 E.2.1 dX11_plan_77 rfl (lv_at hl44 1 rfl) ?_
            refine x_get (pc := 78) (T := TX11) (N := 13) (ci := 11) (v := .ref q_49) E hw57 inX11 0 11 q_617 rfl rfl (by decide) rfl rfl dX11_plan_78 ?_
            refine x_get (pc := 81) (T := TX6) (N := 10) (ci := 6) (v := .int 0) E hw57 inX6 51 0 q_1161 rfl rfl (by decide) rfl rfl dX11_plan_81 ?_
            refine lv_iload_n (pc := 84) E.1 E.2.1 dX11_plan_84 rfl (lv_at hl44 2 rfl) ?_
            refine lv_icmp_eq (pc := 85) (tgt := 100) E.1 E.2.1 dX11_plan_85 (by decide) (fun c_58 => absurd c_58 (mneE (a := 0) (b := z_n.toInt) (by decide +kernel) rfl (by omega))) (fun _ => ?_)
            refine lv_aload_n (pc := 88) E.1 E.2.1 dX11_plan_88 rfl (lv_at hl44 1 rfl) ?_
            refine x_get (pc := 89) (T := TX11) (N := 13) (ci := 11) (v := .ref q_49) E hw57 inX11 0 11 q_617 rfl rfl (by decide) rfl rfl dX11_plan_89 ?_
            refine lv_aload_n (pc := 92) E.1 E.2.1 dX11_plan_92 rfl (lv_at hl44 1 rfl) ?_
            refine x_get (pc := 93) (T := TX11) (N := 13) (ci := 11) (v := .ref (mr 3)) E hw57 inX11 0 0 q_606 rfl rfl (by decide) rfl rfl dX11_plan_93 ?_
            refine lv_iload_n (pc := 96) E.1 E.2.1 dX11_plan_96 rfl (lv_at hl44 2 rfl) ?_
            refine cq_v (pc := 97) (ws' := (fun (u : Int32 × (Nat → Int32) × (Nat → Int32) × (Nat → Int64) × (Nat → Int64) × (Nat → Int32) × (Nat → Int32) × Int32 × (Nat → Int64) × Int32 × (Nat → Int32) × (Nat → Int32)) => (WZ_MplanP cI cJ mv (va_up (va_up (va_up (va_up (va_up (va_up (va_up mr 80 q_49) 84 u_51.1) 85 u_51.2.1) 86 u_51.2.2.1) 87 u_51.2.2.2.1) 89 u_51.2.2.2.2.1) 90 u_51.2.2.2.2.2) (upd (upd (upd mi 81 u.2.2.2.2.2.2.2.2.2.1) 82 u.2.2.2.2.2.2.2.1) 88 u.1) (va_up (va_up (va_up (va_up (va_up (va_up mf 41 u.2.2.2.2.2.2.2.2.2.2.1) 42 u.2.2.2.2.2.2.2.2.2.2.2) 86 u.2.2.1) 87 u.2.1) 89 u.2.2.2.2.2.1) 90 u.2.2.2.2.2.2.1) (va_up (va_up (va_up mg 83 u.2.2.2.2.2.2.2.2.1) 84 u.2.2.2.1) 85 u.2.2.2.2.1)))) hw57 [51, 52, 53, 54, 55, 56, 57, 1, 2, 3, 4, 5, 6, 7, 8, 9, 10, 11, 12, 13, 14, 15, 16, 17, 18, 19, 20, 21, 22, 23, 24, 25, 26, 27, 28, 29, 30, 31, 32, 33, 34, 35, 36, 37, 38, 39, 40, 41, 42, 43, 44, 45, 46, 47, 48, 49, 50] [0] [0, 8, 9, 10, 11, 12, 13, 14, 15, 16, 17, 18, 19, 20, 21, 22, 23, 24, 25, 26, 27, 28, 29, 30, 31, 32, 33, 34, 35, 36, 37, 38, 39, 40, 41, 42, 43, 44, 45, 46, 47, 48, 49, 50, 51, 52, 53, 54, 55, 56, 57, 1, 2, 3, 4, 5, 6, 7] rfl rfl (by decide) (by decide) (fun _ => rfl) (by decide) (rn_V (As := [.ref (mr 3), .int z_n]) (rest := []) E hw57 (t_search l D cI cJ _ (shs [(0, 80, 11), (11, 3, 77)] (va_up (va_up (va_up (va_up (va_up (va_up (va_up mr 80 q_49) 84 u_51.1) 85 u_51.2.1) 86 u_51.2.2.1) 87 u_51.2.2.2.1) 89 u_51.2.2.2.2.1) 90 u_51.2.2.2.2.2)) (shs [(0, 80, 11), (11, 3, 77)] (upd (upd (upd mi 81 0) 82 0) 88 0)) (shs [(0, 80, 11), (11, 3, 77)] (va_up (va_up (va_up (va_up mf 86 (fun _ => 0)) 87 (fun _ => 0)) 89 (fun _ => 0)) 90 (fun _ => 0))) (shs [(0, 80, 11), (11, 3, 77)] (va_up (va_up (va_up mg 83 (fun _ => 0)) 84 (fun _ => 0)) 85 (fun _ => 0))) z_n (vl [mv 9]) h3 h4 h5 (by show 1 ≤ z_n.toInt ∧ z_n.toInt ≤ 10; omega) a_p_from a_p_to hz_54 hz_55 hz_56) (gdV q_1193 q_1194 q_1195 q_170 q_1196) hdV_X6_search ⟨rfl, rfl⟩ ⟨(Nat.le_of_ble_eq_true rfl), (Nat.le_of_ble_eq_true rfl)⟩ ⟨(Nat.le_of_ble_eq_true rfl), (Nat.le_of_ble_eq_true rfl)⟩ xT_b xT_at 51 6 rfl rfl rfl [51, 52, 53, 54, 55, 56, 57, 1, 2, 3, 4, 5, 6, 7, 8, 9, 10, 11, 12, 13, 14, 15, 16, 17, 18, 19, 20, 21, 22, 23, 24, 25, 26, 27, 28, 29, 30, 31, 32, 33, 34, 35, 36, 37, 38, 39, 40, 41, 42, 43, 44, 45, 46, 47, 48, 49, 50] rfl (by decide) rfl hl44.1 rfl (Nat.le_of_ble_eq_true rfl) dX11_plan_97) (fun u_59 H1 locs hp hw61 => ?_)
            obtain ⟨nwants_62, gwanted_63, ghops_64, gcosts_65, glifted_66, gserved_67, gwed_68, nmostWorth_69, gleastCost_70, nplanned_71, gpmeasured_72, gpmeasuredIn_73⟩ := u_59
            generalize H1 = H at hw61 ⊢
            have hw74 : WD D A s.heap (WZ_MplanP cI cJ mv (va_up (va_up (va_up (va_up (va_up (va_up (va_up mr 80 q_49) 84 u_51.1) 85 u_51.2.1) 86 u_51.2.2.1) 87 u_51.2.2.2.1) 89 u_51.2.2.2.2.1) 90 u_51.2.2.2.2.2) (upd (upd (upd mi 81 nplanned_71) 82 nmostWorth_69) 88 nwants_62) (va_up (va_up (va_up (va_up (va_up (va_up mf 41 gpmeasured_72) 42 gpmeasuredIn_73) 86 ghops_64) 87 gwanted_63) 89 gserved_67) 90 gwed_68) (va_up (va_up (va_up mg 83 gleastCost_70) 84 gcosts_65) 85 glifted_66)) H locs := hw61
            obtain ⟨hp_75, hp_76, hp_77, hp_78, hp_79, hp_80⟩ := hp
            have hp_75 : nplanned_71.toInt = z_n.toInt := hp_75
            have hp_76 : 0 ≤ nwants_62.toInt := hp_76
            have hp_77 : nwants_62.toInt ≤ 10 := hp_77
            refine lv_iload_n (pc := 100) E.1 E.2.1 dX11_plan_100 rfl (lv_at hl44 3 rfl) ?_
            refine lv_if_ne (pc := 101) (tgt := 112) E.1 E.2.1 dX11_plan_101 (by decide) (fun _ => ?_) (fun c_81 => absurd c_81 (mneE (a := z_what.toInt) (b := 0) rfl (by decide +kernel) (by omega)))
            refine lv_iload_n (pc := 112) E.1 E.2.1 dX11_plan_112 rfl (lv_at hl44 3 rfl) ?_
            refine lv_iconst (pc := 113) (v := 1) E.1 E.2.1 dX11_plan_113 (by decide +kernel) ?_
            refine lv_icmp_ne (pc := 114) (tgt := 127) E.1 E.2.1 dX11_plan_114 (by decide) (fun c_82 => absurd (meqE (a := z_what.toInt) (b := 1) rfl (by decide +kernel) (by omega)) c_82) (fun _ => ?_)
            refine lv_aload_n (pc := 117) E.1 E.2.1 dX11_plan_117 rfl (lv_at hl44 1 rfl) ?_
            refine x_get (pc := 118) (T := TX11) (N := 13) (ci := 11) (v := .ref q_49) E hw74 inX11 0 11 q_617 rfl rfl (by decide) rfl rfl dX11_plan_118 ?_
            refine ck_i (pc := 121) (ws' := (fun (u : Unit) => (WZ_MplanP cI cJ mv (va_up (va_up (va_up (va_up (va_up (va_up (va_up mr 80 q_49) 84 u_51.1) 85 u_51.2.1) 86 u_51.2.2.1) 87 u_51.2.2.2.1) 89 u_51.2.2.2.2.1) 90 u_51.2.2.2.2.2) (upd (upd (upd mi 81 nplanned_71) 82 nmostWorth_69) 88 nwants_62) (va_up (va_up (va_up (va_up (va_up (va_up mf 41 gpmeasured_72) 42 gpmeasuredIn_73) 86 ghops_64) 87 gwanted_63) 89 gserved_67) 90 gwed_68) (va_up (va_up (va_up mg 83 gleastCost_70) 84 gcosts_65) 85 glifted_66)))) [false, false, false, false, false, false, false, false, false, false, false, false, false, false, false, false, false, false, false, false, false, false, false, false, false, false, false, false, false, false, false, false, false, false, false, false, false, false, false, false, false, false, false, false, false, false, false, false, false, false, false, true, true, true, true, true, true, true] hw74 rfl (fun hC_ => (rn_V (As := []) (rest := []) E hw74 (t_way l D cI cJ _ (shf 80 (va_up (va_up (va_up (va_up (va_up (va_up (va_up mr 80 q_49) 84 u_51.1) 85 u_51.2.1) 86 u_51.2.2.1) 87 u_51.2.2.2.1) 89 u_51.2.2.2.2.1) 90 u_51.2.2.2.2.2)) (shf 80 (upd (upd (upd mi 81 nplanned_71) 82 nmostWorth_69) 88 nwants_62)) (shf 80 (va_up (va_up (va_up (va_up (va_up (va_up mf 41 gpmeasured_72) 42 gpmeasuredIn_73) 86 ghops_64) 87 gwanted_63) 89 gserved_67) 90 gwed_68)) (shf 80 (va_up (va_up (va_up mg 83 gleastCost_70) 84 gcosts_65) 85 glifted_66)) ) (gdV q_1238 q_1239 q_1240 q_170 q_1241) hdV_X6_way ⟨rfl, rfl⟩ ⟨(Nat.le_of_ble_eq_true rfl), (Nat.le_of_ble_eq_true rfl)⟩ ⟨(Nat.le_of_ble_eq_true rfl), (Nat.le_of_ble_eq_true rfl)⟩ xT_b xT_at 51 6 rfl rfl rfl _ hC_ (nd_T _ 0) rfl hl44.1 rfl (Nat.le_of_ble_eq_true rfl) dX11_plan_121)) rfl (fun _ => rfl) (fun _ => rfl) (fun r_84 u_83 H1 locs hp hw85 => ?_)
            generalize H1 = H at hw85 ⊢
            have hw86 : WD D A s.heap (WZ_MplanP cI cJ mv (va_up (va_up (va_up (va_up (va_up (va_up (va_up mr 80 q_49) 84 u_51.1) 85 u_51.2.1) 86 u_51.2.2.1) 87 u_51.2.2.2.1) 89 u_51.2.2.2.2.1) 90 u_51.2.2.2.2.2) (upd (upd (upd mi 81 nplanned_71) 82 nmostWorth_69) 88 nwants_62) (va_up (va_up (va_up (va_up (va_up (va_up mf 41 gpmeasured_72) 42 gpmeasuredIn_73) 86 ghops_64) 87 gwanted_63) 89 gserved_67) 90 gwed_68) (va_up (va_up (va_up mg 83 gleastCost_70) 84 gcosts_65) 85 glifted_66)) H locs := hw85
            refine lv_goto (pc := 124) (tgt := 138) E.1 E.2.1 dX11_plan_124 (by decide) ?_
            exact em_i (w1 := (fun (u : Bool × (Nat → Nat) × (Nat → Int32) × (Nat → Nat → Int32) × (Nat → Nat → Int64)) => cond u.1 (WZ_MplanP cI cJ mv u.2.1 u.2.2.1 u.2.2.2.1 u.2.2.2.2) (WZ_planN cI cJ mv mr u.2.2.1 u.2.2.2.1 u.2.2.2.2))) E hr hlk (true, (va_up (va_up (va_up (va_up (va_up (va_up (va_up mr 80 q_49) 84 u_51.1) 85 u_51.2.1) 86 u_51.2.2.1) 87 u_51.2.2.2.1) 89 u_51.2.2.2.2.1) 90 u_51.2.2.2.2.2), (upd (upd (upd mi 81 nplanned_71) 82 nmostWorth_69) 88 nwants_62), (va_up (va_up (va_up (va_up (va_up (va_up mf 41 gpmeasured_72) 42 gpmeasuredIn_73) 86 ghops_64) 87 gwanted_63) 89 gserved_67) 90 gwed_68), (va_up (va_up (va_up mg 83 gleastCost_70) 84 gcosts_65) 85 glifted_66)) hw86 ⟨h0.1, h0.2, h1.1, h1.2, h2.1, h2.2, h3.1, h3.2, h4.1, h4.2, h5.1, h5.2, h6.1, h6.2, h7.1, h7.2, rfl, rfl, a_p_from, a_p_to, a_t_marks, a_u_marks, hp_80, hp_78, hp_79, rfl, rfl, (fun k hk => by show (va_up (va_up (va_up (va_up (va_up (va_up (va_up mr 80 q_49) 84 u_51.1) 85 u_51.2.1) 86 u_51.2.2.1) 87 u_51.2.2.2.1) 89 u_51.2.2.2.2.1) 90 u_51.2.2.2.2.2) k = mr k; simp only [va_up]; repeat rw [if_neg (by omega)])⟩ (Nat.le_of_ble_eq_true rfl) (Nat.le_of_ble_eq_true rfl) dX11_plan_138
          · skip
            have hc_48 := eqE (a := (mi 32).toInt) (b := 0) rfl (by decide +kernel) c_48
            refine lv_iconst (pc := 57) (v := (-1)) E.1 E.2.1 dX11_plan_57 (by decide +kernel) ?_
            exact em_i (w1 := (fun (u : Bool × (Nat → Nat) × (Nat → Int32) × (Nat → Nat → Int32) × (Nat → Nat → Int64)) => cond u.1 (WZ_MplanP cI cJ mv u.2.1 u.2.2.1 u.2.2.2.1 u.2.2.2.2) (WZ_planN cI cJ mv mr u.2.2.1 u.2.2.2.1 u.2.2.2.2))) E hr hlk (false, mr, mi, (va_up (va_up (va_up mf 87 (fun _ => 0)) 89 (fun _ => 0)) 90 (fun _ => 0)), mg) hw1 ⟨h0.1, h0.2, h1.1, h1.2, h2.1, h2.2, h3.1, h3.2, h4.1, h4.2, h5.1, h5.2, h6.1, h6.2, h7.1, h7.2, rfl, rfl, a_p_from, a_p_to, a_t_marks, a_u_marks, (allR_0 (by decide)), (allR_0 (by decide)), (allR_0 (by decide)), rfl, rfl, (fun _ _ => rfl)⟩ (Nat.le_of_ble_eq_true rfl) (Nat.le_of_ble_eq_true rfl) dX11_plan_58
    · skip
      have hc_43 := neE (a := z_what.toInt) (b := 1) rfl (by decide +kernel) c_43
      refine lv_iload_n (pc := 9) E.1 E.2.1 dX11_plan_9 rfl (lv_at hl3 2 rfl) ?_
      refine lv_bipush (pc := 10) (v := 10) E.1 E.2.1 dX11_plan_10 (by decide +kernel) ?_
      refine lv_icmp_lt (pc := 12) (tgt := 27) E.1 E.2.1 dX11_plan_12 (by decide) (fun c_87 => ?_) (fun c_87 => ?_)
      · skip
        have hc_87 := ltE (a := z_what.toInt) (b := 10) rfl (by decide +kernel) c_87
        refine lv_iconst (pc := 27) (v := 0) E.1 E.2.1 dX11_plan_27 (by decide +kernel) ?_
        refine lv_istore_n (pc := 28) (lv' := [(3, .int 0), (0, .ref (mr 0)), (1, .int z_n), (2, .int z_what)]) E.1 E.2.1 dX11_plan_28 rfl hl3 (by decide) rfl (fun ls hl88 => ?_)
        refine lv_iload_n (pc := 29) E.1 E.2.1 dX11_plan_29 rfl (lv_at hl88 2 rfl) ?_
        refine lv_iconst (pc := 30) (v := 1) E.1 E.2.1 dX11_plan_30 (by decide +kernel) ?_
        refine lv_icmp_lt (pc := 31) (tgt := 57) E.1 E.2.1 dX11_plan_31 (by decide) (fun c_89 => ?_) (fun c_89 => ?_)
        · skip
          have hc_89 := ltE (a := z_n.toInt) (b := 1) rfl (by decide +kernel) c_89
          refine lv_iconst (pc := 57) (v := (-1)) E.1 E.2.1 dX11_plan_57 (by decide +kernel) ?_
          exact em_i (w1 := (fun (u : Bool × (Nat → Nat) × (Nat → Int32) × (Nat → Nat → Int32) × (Nat → Nat → Int64)) => cond u.1 (WZ_MplanP cI cJ mv u.2.1 u.2.2.1 u.2.2.2.1 u.2.2.2.2) (WZ_planN cI cJ mv mr u.2.2.1 u.2.2.2.1 u.2.2.2.2))) E hr hlk (false, mr, mi, (va_up (va_up (va_up mf 87 (fun _ => 0)) 89 (fun _ => 0)) 90 (fun _ => 0)), mg) hw1 ⟨h0.1, h0.2, h1.1, h1.2, h2.1, h2.2, h3.1, h3.2, h4.1, h4.2, h5.1, h5.2, h6.1, h6.2, h7.1, h7.2, rfl, rfl, a_p_from, a_p_to, a_t_marks, a_u_marks, (allR_0 (by decide)), (allR_0 (by decide)), (allR_0 (by decide)), rfl, rfl, (fun _ _ => rfl)⟩ (Nat.le_of_ble_eq_true rfl) (Nat.le_of_ble_eq_true rfl) dX11_plan_58
        · skip
          have hc_89 := nltE (a := z_n.toInt) (b := 1) rfl (by decide +kernel) c_89
          refine lv_iload_n (pc := 34) E.1 E.2.1 dX11_plan_34 rfl (lv_at hl88 2 rfl) ?_
          refine lv_bipush (pc := 35) (v := 10) E.1 E.2.1 dX11_plan_35 (by decide +kernel) ?_
          refine lv_icmp_gt (pc := 37) (tgt := 57) E.1 E.2.1 dX11_plan_37 (by decide) (fun c_90 => ?_) (fun c_90 => ?_)
          · skip
            have hc_90 := ltE (a := 10) (b := z_n.toInt) (by decide +kernel) rfl c_90
            refine lv_iconst (pc := 57) (v := (-1)) E.1 E.2.1 dX11_plan_57 (by decide +kernel) ?_
            exact em_i (w1 := (fun (u : Bool × (Nat → Nat) × (Nat → Int32) × (Nat → Nat → Int32) × (Nat → Nat → Int64)) => cond u.1 (WZ_MplanP cI cJ mv u.2.1 u.2.2.1 u.2.2.2.1 u.2.2.2.2) (WZ_planN cI cJ mv mr u.2.2.1 u.2.2.2.1 u.2.2.2.2))) E hr hlk (false, mr, mi, (va_up (va_up (va_up mf 87 (fun _ => 0)) 89 (fun _ => 0)) 90 (fun _ => 0)), mg) hw1 ⟨h0.1, h0.2, h1.1, h1.2, h2.1, h2.2, h3.1, h3.2, h4.1, h4.2, h5.1, h5.2, h6.1, h6.2, h7.1, h7.2, rfl, rfl, a_p_from, a_p_to, a_t_marks, a_u_marks, (allR_0 (by decide)), (allR_0 (by decide)), (allR_0 (by decide)), rfl, rfl, (fun _ _ => rfl)⟩ (Nat.le_of_ble_eq_true rfl) (Nat.le_of_ble_eq_true rfl) dX11_plan_58
          · skip
            have hc_90 := nltE (a := 10) (b := z_n.toInt) (by decide +kernel) rfl c_90
            refine lv_iload_n (pc := 40) E.1 E.2.1 dX11_plan_40 rfl (lv_at hl88 0 rfl) ?_
            refine lv_if_eq (pc := 41) (tgt := 57) E.1 E.2.1 dX11_plan_41 (by decide) (fun _ => ?_) (fun c_91 => absurd (meqE (a := 0) (b := 0) (by decide +kernel) (by decide +kernel) (by omega)) c_91)
            refine lv_iconst (pc := 57) (v := (-1)) E.1 E.2.1 dX11_plan_57 (by decide +kernel) ?_
            exact em_i (w1 := (fun (u : Bool × (Nat → Nat) × (Nat → Int32) × (Nat → Nat → Int32) × (Nat → Nat → Int64)) => cond u.1 (WZ_MplanP cI cJ mv u.2.1 u.2.2.1 u.2.2.2.1 u.2.2.2.2) (WZ_planN cI cJ mv mr u.2.2.1 u.2.2.2.1 u.2.2.2.2))) E hr hlk (false, mr, mi, (va_up (va_up (va_up mf 87 (fun _ => 0)) 89 (fun _ => 0)) 90 (fun _ => 0)), mg) hw1 ⟨h0.1, h0.2, h1.1, h1.2, h2.1, h2.2, h3.1, h3.2, h4.1, h4.2, h5.1, h5.2, h6.1, h6.2, h7.1, h7.2, rfl, rfl, a_p_from, a_p_to, a_t_marks, a_u_marks, (allR_0 (by decide)), (allR_0 (by decide)), (allR_0 (by decide)), rfl, rfl, (fun _ _ => rfl)⟩ (Nat.le_of_ble_eq_true rfl) (Nat.le_of_ble_eq_true rfl) dX11_plan_58
      · skip
        have hc_87 := nltE (a := z_what.toInt) (b := 10) rfl (by decide +kernel) c_87
        refine lv_iload_n (pc := 15) E.1 E.2.1 dX11_plan_15 rfl (lv_at hl3 2 rfl) ?_
        refine lv_bipush (pc := 16) (v := 10) E.1 E.2.1 dX11_plan_16 (by decide +kernel) ?_
        refine lv_isub (pc := 18) E.1 E.2.1 dX11_plan_18 ?_
        refine lv_topi (fun v_92 ev_92 => ?_)
        have hv_92 : v_92.toInt = z_what.toInt - 10 := by rw [ev_92]; exact subE rfl (by decide +kernel) (by omega)
        refine lv_iload_n (pc := 19) E.1 E.2.1 dX11_plan_19 rfl (lv_at hl3 1 rfl) ?_
        refine lv_icmp_ge (pc := 20) (tgt := 27) E.1 E.2.1 dX11_plan_20 (by decide) (fun c_93 => ?_) (fun c_93 => ?_)
        · skip
          have hc_93 := leE (a := z_n.toInt) (b := v_92.toInt) rfl rfl c_93
          refine lv_iconst (pc := 27) (v := 0) E.1 E.2.1 dX11_plan_27 (by decide +kernel) ?_
          refine lv_istore_n (pc := 28) (lv' := [(3, .int 0), (0, .ref (mr 0)), (1, .int z_n), (2, .int z_what)]) E.1 E.2.1 dX11_plan_28 rfl hl3 (by decide) rfl (fun ls hl94 => ?_)
          refine lv_iload_n (pc := 29) E.1 E.2.1 dX11_plan_29 rfl (lv_at hl94 2 rfl) ?_
          refine lv_iconst (pc := 30) (v := 1) E.1 E.2.1 dX11_plan_30 (by decide +kernel) ?_
          refine lv_icmp_lt (pc := 31) (tgt := 57) E.1 E.2.1 dX11_plan_31 (by decide) (fun c_95 => ?_) (fun c_95 => ?_)
          · skip
            have hc_95 := ltE (a := z_n.toInt) (b := 1) rfl (by decide +kernel) c_95
            refine lv_iconst (pc := 57) (v := (-1)) E.1 E.2.1 dX11_plan_57 (by decide +kernel) ?_
            exact em_i (w1 := (fun (u : Bool × (Nat → Nat) × (Nat → Int32) × (Nat → Nat → Int32) × (Nat → Nat → Int64)) => cond u.1 (WZ_MplanP cI cJ mv u.2.1 u.2.2.1 u.2.2.2.1 u.2.2.2.2) (WZ_planN cI cJ mv mr u.2.2.1 u.2.2.2.1 u.2.2.2.2))) E hr hlk (false, mr, mi, (va_up (va_up (va_up mf 87 (fun _ => 0)) 89 (fun _ => 0)) 90 (fun _ => 0)), mg) hw1 ⟨h0.1, h0.2, h1.1, h1.2, h2.1, h2.2, h3.1, h3.2, h4.1, h4.2, h5.1, h5.2, h6.1, h6.2, h7.1, h7.2, rfl, rfl, a_p_from, a_p_to, a_t_marks, a_u_marks, (allR_0 (by decide)), (allR_0 (by decide)), (allR_0 (by decide)), rfl, rfl, (fun _ _ => rfl)⟩ (Nat.le_of_ble_eq_true rfl) (Nat.le_of_ble_eq_true rfl) dX11_plan_58
          · skip
            have hc_95 := nltE (a := z_n.toInt) (b := 1) rfl (by decide +kernel) c_95
            refine lv_iload_n (pc := 34) E.1 E.2.1 dX11_plan_34 rfl (lv_at hl94 2 rfl) ?_
            refine lv_bipush (pc := 35) (v := 10) E.1 E.2.1 dX11_plan_35 (by decide +kernel) ?_
            refine lv_icmp_gt (pc := 37) (tgt := 57) E.1 E.2.1 dX11_plan_37 (by decide) (fun c_96 => ?_) (fun c_96 => ?_)
            · skip
              have hc_96 := ltE (a := 10) (b := z_n.toInt) (by decide +kernel) rfl c_96
              refine lv_iconst (pc := 57) (v := (-1)) E.1 E.2.1 dX11_plan_57 (by decide +kernel) ?_
              exact em_i (w1 := (fun (u : Bool × (Nat → Nat) × (Nat → Int32) × (Nat → Nat → Int32) × (Nat → Nat → Int64)) => cond u.1 (WZ_MplanP cI cJ mv u.2.1 u.2.2.1 u.2.2.2.1 u.2.2.2.2) (WZ_planN cI cJ mv mr u.2.2.1 u.2.2.2.1 u.2.2.2.2))) E hr hlk (false, mr, mi, (va_up (va_up (va_up mf 87 (fun _ => 0)) 89 (fun _ => 0)) 90 (fun _ => 0)), mg) hw1 ⟨h0.1, h0.2, h1.1, h1.2, h2.1, h2.2, h3.1, h3.2, h4.1, h4.2, h5.1, h5.2, h6.1, h6.2, h7.1, h7.2, rfl, rfl, a_p_from, a_p_to, a_t_marks, a_u_marks, (allR_0 (by decide)), (allR_0 (by decide)), (allR_0 (by decide)), rfl, rfl, (fun _ _ => rfl)⟩ (Nat.le_of_ble_eq_true rfl) (Nat.le_of_ble_eq_true rfl) dX11_plan_58
            · skip
              have hc_96 := nltE (a := 10) (b := z_n.toInt) (by decide +kernel) rfl c_96
              refine lv_iload_n (pc := 40) E.1 E.2.1 dX11_plan_40 rfl (lv_at hl94 0 rfl) ?_
              refine lv_if_eq (pc := 41) (tgt := 57) E.1 E.2.1 dX11_plan_41 (by decide) (fun _ => ?_) (fun c_97 => absurd (meqE (a := 0) (b := 0) (by decide +kernel) (by decide +kernel) (by omega)) c_97)
              refine lv_iconst (pc := 57) (v := (-1)) E.1 E.2.1 dX11_plan_57 (by decide +kernel) ?_
              exact em_i (w1 := (fun (u : Bool × (Nat → Nat) × (Nat → Int32) × (Nat → Nat → Int32) × (Nat → Nat → Int64)) => cond u.1 (WZ_MplanP cI cJ mv u.2.1 u.2.2.1 u.2.2.2.1 u.2.2.2.2) (WZ_planN cI cJ mv mr u.2.2.1 u.2.2.2.1 u.2.2.2.2))) E hr hlk (false, mr, mi, (va_up (va_up (va_up mf 87 (fun _ => 0)) 89 (fun _ => 0)) 90 (fun _ => 0)), mg) hw1 ⟨h0.1, h0.2, h1.1, h1.2, h2.1, h2.2, h3.1, h3.2, h4.1, h4.2, h5.1, h5.2, h6.1, h6.2, h7.1, h7.2, rfl, rfl, a_p_from, a_p_to, a_t_marks, a_u_marks, (allR_0 (by decide)), (allR_0 (by decide)), (allR_0 (by decide)), rfl, rfl, (fun _ _ => rfl)⟩ (Nat.le_of_ble_eq_true rfl) (Nat.le_of_ble_eq_true rfl) dX11_plan_58
        · skip
          have hc_93 := nleE (a := z_n.toInt) (b := v_92.toInt) rfl rfl c_93
          refine lv_iconst (pc := 23) (v := 1) E.1 E.2.1 dX11_plan_23 (by decide +kernel) ?_
          refine lv_goto (pc := 24) (tgt := 28) E.1 E.2.1 dX11_plan_24 (by decide) ?_
          refine lv_istore_n (pc := 28) (lv' := [(3, .int 1), (0, .ref (mr 0)), (1, .int z_n), (2, .int z_what)]) E.1 E.2.1 dX11_plan_28 rfl hl3 (by decide) rfl (fun ls hl98 => ?_)
          refine lv_iload_n (pc := 29) E.1 E.2.1 dX11_plan_29 rfl (lv_at hl98 2 rfl) ?_
          refine lv_iconst (pc := 30) (v := 1) E.1 E.2.1 dX11_plan_30 (by decide +kernel) ?_
          refine lv_icmp_lt (pc := 31) (tgt := 57) E.1 E.2.1 dX11_plan_31 (by decide) (fun c_99 => absurd c_99 (mnltE (a := z_n.toInt) (b := 1) rfl (by decide +kernel) (by omega))) (fun _ => ?_)
          refine lv_iload_n (pc := 34) E.1 E.2.1 dX11_plan_34 rfl (lv_at hl98 2 rfl) ?_
          refine lv_bipush (pc := 35) (v := 10) E.1 E.2.1 dX11_plan_35 (by decide +kernel) ?_
          refine lv_icmp_gt (pc := 37) (tgt := 57) E.1 E.2.1 dX11_plan_37 (by decide) (fun c_100 => ?_) (fun c_100 => ?_)
          · skip
            have hc_100 := ltE (a := 10) (b := z_n.toInt) (by decide +kernel) rfl c_100
            refine lv_iconst (pc := 57) (v := (-1)) E.1 E.2.1 dX11_plan_57 (by decide +kernel) ?_
            exact em_i (w1 := (fun (u : Bool × (Nat → Nat) × (Nat → Int32) × (Nat → Nat → Int32) × (Nat → Nat → Int64)) => cond u.1 (WZ_MplanP cI cJ mv u.2.1 u.2.2.1 u.2.2.2.1 u.2.2.2.2) (WZ_planN cI cJ mv mr u.2.2.1 u.2.2.2.1 u.2.2.2.2))) E hr hlk (false, mr, mi, (va_up (va_up (va_up mf 87 (fun _ => 0)) 89 (fun _ => 0)) 90 (fun _ => 0)), mg) hw1 ⟨h0.1, h0.2, h1.1, h1.2, h2.1, h2.2, h3.1, h3.2, h4.1, h4.2, h5.1, h5.2, h6.1, h6.2, h7.1, h7.2, rfl, rfl, a_p_from, a_p_to, a_t_marks, a_u_marks, (allR_0 (by decide)), (allR_0 (by decide)), (allR_0 (by decide)), rfl, rfl, (fun _ _ => rfl)⟩ (Nat.le_of_ble_eq_true rfl) (Nat.le_of_ble_eq_true rfl) dX11_plan_58
          · skip
            have hc_100 := nltE (a := 10) (b := z_n.toInt) (by decide +kernel) rfl c_100
            refine lv_iload_n (pc := 40) E.1 E.2.1 dX11_plan_40 rfl (lv_at hl98 0 rfl) ?_
            refine lv_if_eq (pc := 41) (tgt := 57) E.1 E.2.1 dX11_plan_41 (by decide) (fun c_101 => absurd c_101 (mneE (a := 1) (b := 0) (by decide +kernel) (by decide +kernel) (by omega))) (fun _ => ?_)
            refine lv_aload_n (pc := 44) E.1 E.2.1 dX11_plan_44 rfl (lv_at hl98 1 rfl) ?_
            refine x_get (pc := 45) (T := TX11) (N := 13) (ci := 11) (v := .ref (mr 3)) E hw1 inX11 0 0 q_606 rfl rfl (by decide) rfl rfl dX11_plan_45 ?_
            refine x_get (pc := 48) (T := TX10) (N := 17) (ci := 10) (v := .ref (mr 26)) E hw1 inX10 1 1 q_463 rfl rfl (by decide) rfl rfl dX11_plan_48 ?_
            refine x_get (pc := 51) (T := TX1) (N := 9) (ci := 1) (v := .int (mi 32)) E hw1 inX1 13 5 q_282 rfl rfl (by decide) rfl rfl dX11_plan_51 ?_
            refine lv_if_ne (pc := 54) (tgt := 59) E.1 E.2.1 dX11_plan_54 (by decide) (fun c_102 => ?_) (fun c_102 => ?_)
            · skip
              have hc_102 := neE (a := (mi 32).toInt) (b := 0) rfl (by decide +kernel) c_102
              refine lv_aload_n (pc := 59) E.1 E.2.1 dX11_plan_59 rfl (lv_at hl98 1 rfl) ?_
              refine x_get (pc := 60) (T := TX11) (N := 13) (ci := 11) (v := .null) E hw1 inX11 0 11 q_617 rfl rfl (by decide) rfl rfl dX11_plan_60 ?_
              refine lv_ifnonnullN (pc := 63) E.1 E.2.1 dX11_plan_63 ?_
              refine lv_aload_n (pc := 66) E.1 E.2.1 dX11_plan_66 rfl (lv_at hl98 1 rfl) ?_
              refine x_new (pc := 67) (T := TX6) (N := 10) (ci := 6) (k1 := 1) (n1 := 10) E hw1 inX6 tyX6_ok q_1154 q_1155 q_170 rfl dfX6 (Nat.le_of_ble_eq_true rfl) (Nat.le_of_ble_eq_true rfl) (Nat.le_of_ble_eq_true rfl) (Nat.le_of_ble_eq_true rfl) dX11_plan_67 (fun q_103 H hw104 => ?_)
              refine lv_dup (pc := 70) E.1 E.2.1 dX11_plan_70 rfl ?_
              refine cl_v (pc := 71) (k1 := 7) (n1 := 10390) (wr := (WZ_planN cI cJ mv mr mi mf mg)) hw104 [51] [0, 1, 2, 3, 4, 5, 6, 7, 8, 9, 10, 11, 12, 13, 14, 15, 16, 17, 18, 19, 20, 21, 22, 23, 24, 25, 26, 27, 28, 29, 30, 31, 32, 33, 34, 35, 36, 37, 38, 39, 40, 41, 42, 43, 44, 45, 46, 47, 48, 49, 50] rfl rfl (by decide) (by decide) (Nat.le_of_ble_eq_true rfl) (Nat.le_of_ble_eq_true rfl) (rn_I (As := []) (rest := [.ref q_103, .ref (mr 0)]) E hw104 (c_X6_init l D cI cJ _ q_103) q_1158 q_170 q_1156 q_1157 hdI_X6_init rfl ⟨rfl, rfl⟩ ⟨(Nat.le_of_ble_eq_true rfl), (Nat.le_of_ble_eq_true rfl)⟩ ⟨(Nat.le_of_ble_eq_true rfl), (Nat.le_of_ble_eq_true rfl)⟩ xT_b xT_at [51] rfl (by decide) rfl hl98.1 rfl (Nat.le_of_ble_eq_true rfl) dX11_plan_71) (fun u_105 H1 locs hp hw106 => ?_)
              generalize H1 = H at hw106 ⊢
              refine x_put (pc := 74) (T := TX11) (N := 13) (ci := 11) E hw106 inX11 tyX11_ok nmX11 0 11 q_617 rfl rfl (by decide) rfl rfl rfl rfl (Nat.le_of_ble_eq_true rfl) rfl dX11_plan_74 (fun H locs hw107 => ?_)
              have hz_108 : w9 (fun _ => 0) := allR_0 (by decide)
              have hz_109 : s1k (fun _ => 0) := allR_0 (by decide)
              have hz_110 : s1k (fun _ => 0) := allR_0 (by decide)
              have hw111 : WD D A s.heap (WZ_MplanP cI cJ mv (va_up (va_up (va_up (va_up (va_up (va_up (va_up mr 80 q_103) 84 u_105.1) 85 u_105.2.1) 86 u_105.2.2.1) 87 u_105.2.2.2.1) 89 u_105.2.2.2.2.1) 90 u_105.2.2.2.2.2) (upd (upd (upd mi 81 0) 82 0) 88 0) (va_up (va_up (va_up (va_up mf 86 (fun _ => 0)) 87 (fun _ => 0)) 89 (fun _ => 0)) 90 (fun _ => 0)) (va_up (va_up (va_up mg 83 (fun _ => 0)) 84 (fun _ => 0)) 85 (fun _ => 0))) H locs := hw107.sub [0, 1, 2, 3, 4, 5, 6, 7, 8, 9, 10, 11, 12, 13, 14, 15, 16, 17, 18, 19, 20, 21, 22, 23, 24, 25, 26, 27, 28, 29, 30, 31, 32, 33, 34, 35, 36, 37, 38, 39, 40, 41, 42, 43, 44, 45, 46, 47, 48, 49, 50, 51, 52, 53, 54, 55, 56, 57] rfl (by decide)
              refine lv_aload_n (pc := 77) E.1 E.2.1 dX11_plan_77 rfl (lv_at hl98 1 rfl) ?_
              refine x_get (pc := 78) (T := TX11) (N := 13) (ci := 11) (v := .ref q_103) E hw111 inX11 0 11 q_617 rfl rfl (by decide) rfl rfl dX11_plan_78 ?_
              refine x_get (pc := 81) (T := TX6) (N := 10) (ci := 6) (v := .int 0) E hw111 inX6 51 0 q_1161 rfl rfl (by decide) rfl rfl dX11_plan_81 ?_
              refine lv_iload_n (pc := 84) E.1 E.2.1 dX11_plan_84 rfl (lv_at hl98 2 rfl) ?_
              refine lv_icmp_eq (pc := 85) (tgt := 100) E.1 E.2.1 dX11_plan_85 (by decide) (fun c_112 => absurd c_112 (mneE (a := 0) (b := z_n.toInt) (by decide +kernel) rfl (by omega))) (fun _ => ?_)
              refine lv_aload_n (pc := 88) E.1 E.2.1 dX11_plan_88 rfl (lv_at hl98 1 rfl) ?_
              refine x_get (pc := 89) (T := TX11) (N := 13) (ci := 11) (v := .ref q_103) E hw111 inX11 0 11 q_617 rfl rfl (by decide) rfl rfl dX11_plan_89 ?_
              refine lv_aload_n (pc := 92) E.1 E.2.1 dX11_plan_92 rfl (lv_at hl98 1 rfl) ?_
              refine x_get (pc := 93) (T := TX11) (N := 13) (ci := 11) (v := .ref (mr 3)) E hw111 inX11 0 0 q_606 rfl rfl (by decide) rfl rfl dX11_plan_93 ?_
              refine lv_iload_n (pc := 96) E.1 E.2.1 dX11_plan_96 rfl (lv_at hl98 2 rfl) ?_
              refine cq_v (pc := 97) (ws' := (fun (u : Int32 × (Nat → Int32) × (Nat → Int32) × (Nat → Int64) × (Nat → Int64) × (Nat → Int32) × (Nat → Int32) × Int32 × (Nat → Int64) × Int32 × (Nat → Int32) × (Nat → Int32)) => (WZ_MplanP cI cJ mv (va_up (va_up (va_up (va_up (va_up (va_up (va_up mr 80 q_103) 84 u_105.1) 85 u_105.2.1) 86 u_105.2.2.1) 87 u_105.2.2.2.1) 89 u_105.2.2.2.2.1) 90 u_105.2.2.2.2.2) (upd (upd (upd mi 81 u.2.2.2.2.2.2.2.2.2.1) 82 u.2.2.2.2.2.2.2.1) 88 u.1) (va_up (va_up (va_up (va_up (va_up (va_up mf 41 u.2.2.2.2.2.2.2.2.2.2.1) 42 u.2.2.2.2.2.2.2.2.2.2.2) 86 u.2.2.1) 87 u.2.1) 89 u.2.2.2.2.2.1) 90 u.2.2.2.2.2.2.1) (va_up (va_up (va_up mg 83 u.2.2.2.2.2.2.2.2.1) 84 u.2.2.2.1) 85 u.2.2.2.2.1)))) hw111 [51, 52, 53, 54, 55, 56, 57, 1, 2, 3, 4, 5, 6, 7, 8, 9, 10, 11, 12, 13, 14, 15, 16, 17, 18, 19, 20, 21, 22, 23, 24, 25, 26, 27, 28, 29, 30, 31, 32, 33, 34, 35, 36, 37, 38, 39, 40, 41, 42, 43, 44, 45, 46, 47, 48, 49, 50] [0] [0, 8, 9, 10, 11, 12, 13, 14, 15, 16, 17, 18, 19, 20, 21, 22, 23, 24, 25, 26, 27, 28, 29, 30, 31, 32, 33, 34, 35, 36, 37, 38, 39, 40, 41, 42, 43, 44, 45, 46, 47, 48, 49, 50, 51, 52, 53, 54, 55, 56, 57, 1, 2, 3, 4, 5, 6, 7] rfl rfl (by decide) (by decide) (fun _ => rfl) (by decide) (rn_V (As := [.ref (mr 3), .int z_n]) (rest := []) E hw111 (t_search l D cI cJ _ (shs [(0, 80, 11), (11, 3, 77)] (va_up (va_up (va_up (va_up (va_up (va_up (va_up mr 80 q_103) 84 u_105.1) 85 u_105.2.1) 86 u_105.2.2.1) 87 u_105.2.2.2.1) 89 u_105.2.2.2.2.1) 90 u_105.2.2.2.2.2)) (shs [(0, 80, 11), (11, 3, 77)] (upd (upd (upd mi 81 0) 82 0) 88 0)) (shs [(0, 80, 11), (11, 3, 77)] (va_up (va_up (va_up (va_up mf 86 (fun _ => 0)) 87 (fun _ => 0)) 89 (fun _ => 0)) 90 (fun _ => 0))) (shs [(0, 80, 11), (11, 3, 77)] (va_up (va_up (va_up mg 83 (fun _ => 0)) 84 (fun _ => 0)) 85 (fun _ => 0))) z_n (vl [mv 9]) h3 h4 h5 (by show 1 ≤ z_n.toInt ∧ z_n.toInt ≤ 10; omega) a_p_from a_p_to hz_108 hz_109 hz_110) (gdV q_1193 q_1194 q_1195 q_170 q_1196) hdV_X6_search ⟨rfl, rfl⟩ ⟨(Nat.le_of_ble_eq_true rfl), (Nat.le_of_ble_eq_true rfl)⟩ ⟨(Nat.le_of_ble_eq_true rfl), (Nat.le_of_ble_eq_true rfl)⟩ xT_b xT_at 51 6 rfl rfl rfl [51, 52, 53, 54, 55, 56, 57, 1, 2, 3, 4, 5, 6, 7, 8, 9, 10, 11, 12, 13, 14, 15, 16, 17, 18, 19, 20, 21, 22, 23, 24, 25, 26, 27, 28, 29, 30, 31, 32, 33, 34, 35, 36, 37, 38, 39, 40, 41, 42, 43, 44, 45, 46, 47, 48, 49, 50] rfl (by decide) rfl hl98.1 rfl (Nat.le_of_ble_eq_true rfl) dX11_plan_97) (fun u_113 H1 locs hp hw115 => ?_)
              obtain ⟨nwants_116, gwanted_117, ghops_118, gcosts_119, glifted_120, gserved_121, gwed_122, nmostWorth_123, gleastCost_124, nplanned_125, gpmeasured_126, gpmeasuredIn_127⟩ := u_113
              generalize H1 = H at hw115 ⊢
              have hw128 : WD D A s.heap (WZ_MplanP cI cJ mv (va_up (va_up (va_up (va_up (va_up (va_up (va_up mr 80 q_103) 84 u_105.1) 85 u_105.2.1) 86 u_105.2.2.1) 87 u_105.2.2.2.1) 89 u_105.2.2.2.2.1) 90 u_105.2.2.2.2.2) (upd (upd (upd mi 81 nplanned_125) 82 nmostWorth_123) 88 nwants_116) (va_up (va_up (va_up (va_up (va_up (va_up mf 41 gpmeasured_126) 42 gpmeasuredIn_127) 86 ghops_118) 87 gwanted_117) 89 gserved_121) 90 gwed_122) (va_up (va_up (va_up mg 83 gleastCost_124) 84 gcosts_119) 85 glifted_120)) H locs := hw115
              obtain ⟨hp_129, hp_130, hp_131, hp_132, hp_133, hp_134⟩ := hp
              have hp_129 : nplanned_125.toInt = z_n.toInt := hp_129
              have hp_130 : 0 ≤ nwants_116.toInt := hp_130
              have hp_131 : nwants_116.toInt ≤ 10 := hp_131
              refine lv_iload_n (pc := 100) E.1 E.2.1 dX11_plan_100 rfl (lv_at hl98 3 rfl) ?_
              refine lv_if_ne (pc := 101) (tgt := 112) E.1 E.2.1 dX11_plan_101 (by decide) (fun _ => ?_) (fun c_135 => absurd c_135 (mneE (a := z_what.toInt) (b := 0) rfl (by decide +kernel) (by omega)))
              refine lv_iload_n (pc := 112) E.1 E.2.1 dX11_plan_112 rfl (lv_at hl98 3 rfl) ?_
              refine lv_iconst (pc := 113) (v := 1) E.1 E.2.1 dX11_plan_113 (by decide +kernel) ?_
              refine lv_icmp_ne (pc := 114) (tgt := 127) E.1 E.2.1 dX11_plan_114 (by decide) (fun _ => ?_) (fun c_136 => absurd c_136 (mneE (a := z_what.toInt) (b := 1) rfl (by decide +kernel) (by omega)))
              refine lv_aload_n (pc := 127) E.1 E.2.1 dX11_plan_127 rfl (lv_at hl98 1 rfl) ?_
              refine x_get (pc := 128) (T := TX11) (N := 13) (ci := 11) (v := .ref q_103) E hw128 inX11 0 11 q_617 rfl rfl (by decide) rfl rfl dX11_plan_128 ?_
              refine lv_iload_n (pc := 131) E.1 E.2.1 dX11_plan_131 rfl (lv_at hl98 3 rfl) ?_
              refine lv_bipush (pc := 132) (v := 10) E.1 E.2.1 dX11_plan_132 (by decide +kernel) ?_
              refine lv_isub (pc := 134) E.1 E.2.1 dX11_plan_134 ?_
              refine lv_topi (fun v_137 ev_137 => ?_)
              have hv_137 : v_137.toInt = z_what.toInt - 10 := by rw [ev_137]; exact subE rfl (by decide +kernel) (by omega)
              refine ck_i (pc := 135) (ws' := (fun (u : Unit) => (WZ_MplanP cI cJ mv (va_up (va_up (va_up (va_up (va_up (va_up (va_up mr 80 q_103) 84 u_105.1) 85 u_105.2.1) 86 u_105.2.2.1) 87 u_105.2.2.2.1) 89 u_105.2.2.2.2.1) 90 u_105.2.2.2.2.2) (upd (upd (upd mi 81 nplanned_125) 82 nmostWorth_123) 88 nwants_116) (va_up (va_up (va_up (va_up (va_up (va_up mf 41 gpmeasured_126) 42 gpmeasuredIn_127) 86 ghops_118) 87 gwanted_117) 89 gserved_121) 90 gwed_122) (va_up (va_up (va_up mg 83 gleastCost_124) 84 gcosts_119) 85 glifted_120)))) [false, false, false, false, false, false, false, false, false, false, false, false, false, false, false, false, false, false, false, false, false, false, false, false, false, false, false, false, false, false, false, false, false, false, false, false, false, false, false, false, false, false, false, false, false, false, false, false, false, false, false, true, true, true, true, true, true, true] hw128 rfl (fun hC_ => (rn_V (As := [.int v_137]) (rest := []) E hw128 (t_stop l D cI cJ _ (shf 80 (va_up (va_up (va_up (va_up (va_up (va_up (va_up mr 80 q_103) 84 u_105.1) 85 u_105.2.1) 86 u_105.2.2.1) 87 u_105.2.2.2.1) 89 u_105.2.2.2.2.1) 90 u_105.2.2.2.2.2)) (shf 80 (upd (upd (upd mi 81 nplanned_125) 82 nmostWorth_123) 88 nwants_116)) (shf 80 (va_up (va_up (va_up (va_up (va_up (va_up mf 41 gpmeasured_126) 42 gpmeasuredIn_127) 86 ghops_118) 87 gwanted_117) 89 gserved_121) 90 gwed_122)) (shf 80 (va_up (va_up (va_up mg 83 gleastCost_124) 84 gcosts_119) 85 glifted_120)) v_137 (by show 0 ≤ v_137.toInt; omega) (by show v_137.toInt + 1 ≤ nplanned_125.toInt; omega) (by show nplanned_125.toInt ≤ 10; omega)) (gdV q_1242 q_1243 q_1244 q_170 q_1245) hdV_X6_stop ⟨rfl, rfl⟩ ⟨(Nat.le_of_ble_eq_true rfl), (Nat.le_of_ble_eq_true rfl)⟩ ⟨(Nat.le_of_ble_eq_true rfl), (Nat.le_of_ble_eq_true rfl)⟩ xT_b xT_at 51 6 rfl rfl rfl _ hC_ (nd_T _ 0) rfl hl98.1 rfl (Nat.le_of_ble_eq_true rfl) dX11_plan_135)) rfl (fun _ => rfl) (fun _ => rfl) (fun r_139 u_138 H1 locs hp hw140 => ?_)
              generalize H1 = H at hw140 ⊢
              have hw141 : WD D A s.heap (WZ_MplanP cI cJ mv (va_up (va_up (va_up (va_up (va_up (va_up (va_up mr 80 q_103) 84 u_105.1) 85 u_105.2.1) 86 u_105.2.2.1) 87 u_105.2.2.2.1) 89 u_105.2.2.2.2.1) 90 u_105.2.2.2.2.2) (upd (upd (upd mi 81 nplanned_125) 82 nmostWorth_123) 88 nwants_116) (va_up (va_up (va_up (va_up (va_up (va_up mf 41 gpmeasured_126) 42 gpmeasuredIn_127) 86 ghops_118) 87 gwanted_117) 89 gserved_121) 90 gwed_122) (va_up (va_up (va_up mg 83 gleastCost_124) 84 gcosts_119) 85 glifted_120)) H locs := hw140
              exact em_i (w1 := (fun (u : Bool × (Nat → Nat) × (Nat → Int32) × (Nat → Nat → Int32) × (Nat → Nat → Int64)) => cond u.1 (WZ_MplanP cI cJ mv u.2.1 u.2.2.1 u.2.2.2.1 u.2.2.2.2) (WZ_planN cI cJ mv mr u.2.2.1 u.2.2.2.1 u.2.2.2.2))) E hr hlk (true, (va_up (va_up (va_up (va_up (va_up (va_up (va_up mr 80 q_103) 84 u_105.1) 85 u_105.2.1) 86 u_105.2.2.1) 87 u_105.2.2.2.1) 89 u_105.2.2.2.2.1) 90 u_105.2.2.2.2.2), (upd (upd (upd mi 81 nplanned_125) 82 nmostWorth_123) 88 nwants_116), (va_up (va_up (va_up (va_up (va_up (va_up mf 41 gpmeasured_126) 42 gpmeasuredIn_127) 86 ghops_118) 87 gwanted_117) 89 gserved_121) 90 gwed_122), (va_up (va_up (va_up mg 83 gleastCost_124) 84 gcosts_119) 85 glifted_120)) hw141 ⟨h0.1, h0.2, h1.1, h1.2, h2.1, h2.2, h3.1, h3.2, h4.1, h4.2, h5.1, h5.2, h6.1, h6.2, h7.1, h7.2, rfl, rfl, a_p_from, a_p_to, a_t_marks, a_u_marks, hp_134, hp_132, hp_133, rfl, rfl, (fun k hk => by show (va_up (va_up (va_up (va_up (va_up (va_up (va_up mr 80 q_103) 84 u_105.1) 85 u_105.2.1) 86 u_105.2.2.1) 87 u_105.2.2.2.1) 89 u_105.2.2.2.2.1) 90 u_105.2.2.2.2.2) k = mr k; simp only [va_up]; repeat rw [if_neg (by omega)])⟩ (Nat.le_of_ble_eq_true rfl) (Nat.le_of_ble_eq_true rfl) dX11_plan_138
            · skip
              have hc_102 := eqE (a := (mi 32).toInt) (b := 0) rfl (by decide +kernel) c_102
              refine lv_iconst (pc := 57) (v := (-1)) E.1 E.2.1 dX11_plan_57 (by decide +kernel) ?_
              exact em_i (w1 := (fun (u : Bool × (Nat → Nat) × (Nat → Int32) × (Nat → Nat → Int32) × (Nat → Nat → Int64)) => cond u.1 (WZ_MplanP cI cJ mv u.2.1 u.2.2.1 u.2.2.2.1 u.2.2.2.2) (WZ_planN cI cJ mv mr u.2.2.1 u.2.2.2.1 u.2.2.2.2))) E hr hlk (false, mr, mi, (va_up (va_up (va_up mf 87 (fun _ => 0)) 89 (fun _ => 0)) 90 (fun _ => 0)), mg) hw1 ⟨h0.1, h0.2, h1.1, h1.2, h2.1, h2.2, h3.1, h3.2, h4.1, h4.2, h5.1, h5.2, h6.1, h6.2, h7.1, h7.2, rfl, rfl, a_p_from, a_p_to, a_t_marks, a_u_marks, (allR_0 (by decide)), (allR_0 (by decide)), (allR_0 (by decide)), rfl, rfl, (fun _ _ => rfl)⟩ (Nat.le_of_ble_eq_true rfl) (Nat.le_of_ble_eq_true rfl) dX11_plan_58
