set_option maxHeartbeats 4000000 in
set_option maxRecDepth 100000 in
theorem t_roundRead (l : Launch) (D : va_G) (cI cJ : ClassId) (sz : Nat) (mr : Nat → Nat) (mi : Nat → Int32) (mf : Nat → Nat → Int32) (mg : Nat → Nat → Int64) (z_houses : Int32) (ad av : Nat → Nat) (tf : Value) (h0 : 0 ≤ (mi 8).toInt ∧ (mi 8).toInt ≤ 400) (h1 : 0 ≤ (mi 10).toInt) (h2 : (mi 10).toInt ≤ (mi 8).toInt) (h3 : 0 ≤ (mi 9).toInt ∧ (mi 9).toInt ≤ 6) (h4 : 0 ≤ (mi 14).toInt ∧ (mi 14).toInt ≤ 4) (h5 : 0 ≤ z_houses.toInt ∧ z_houses.toInt ≤ 10) : Met l yX7_read (Cond.code yX7_read cX7_read 5 none :: GW) ({ frames := 9, cells := 0, slots := 0, locals := 216 } : Room) (va_Pc [.ref (mr 0), .ref (mr 6), .int z_houses] (PW D cI cJ sz (WZ_RoundT cI cJ ad mr mi mf mg) (xT8 ad av tf (va_A (WZ_RoundT cI cJ ad mr mi mf mg) sz)))) (va_Qv (fun (u : Int32 × Int32 × Int32 × Int32 × Int32 × Int32 × Int32 × Int32 × (Nat → Int32) × (Nat → Int32) × (Nat → Int32)) => (0 ≤ u.1.toInt) ∧ (u.1.toInt ≤ (mi 8).toInt) ∧ (0 ≤ u.2.2.2.2.1.toInt) ∧ (u.2.2.2.2.1.toInt ≤ 4) ∧ (0 ≤ u.2.2.2.2.2.2.1.toInt) ∧ (u.2.2.2.2.2.2.1.toInt ≤ 200 + 157857660 * u.2.2.2.2.1.toInt)) (fun u => QW D cI cJ (va_A (WZ_RoundT cI cJ ad mr mi mf mg) sz) ((fun (u : Int32 × Int32 × Int32 × Int32 × Int32 × Int32 × Int32 × Int32 × (Nat → Int32) × (Nat → Int32) × (Nat → Int32)) => (WZ_RoundT cI cJ ad mr (upd (upd (upd (upd (upd (upd (upd (upd mi 10 u.1) 13 u.2.1) 11 u.2.2.1) 12 u.2.2.2.1) 14 u.2.2.2.2.1) 15 u.2.2.2.2.2.1) 2 u.2.2.2.2.2.2.1) 5 u.2.2.2.2.2.2.2.1) (va_up (va_up (va_up mf 1 u.2.2.2.2.2.2.2.2.1) 3 u.2.2.2.2.2.2.2.2.2.1) 4 u.2.2.2.2.2.2.2.2.2.2) mg)) u)) (va_A (WZ_RoundT cI cJ ad mr mi mf mg) sz)) 0 0 (va_A (WZ_RoundT cI cJ ad mr mi mf mg) sz) := by
  refine mk_metA (X := fun A => xT8 ad av tf A) (y := yX7_read) (bytes := cX7_read) (maxL := 5) (avs := [.ref (mr 0), .ref (mr 6), .int z_houses]) (WS := (WZ_RoundT cI cJ ad mr mi mf mg)) (Qf := fun A => va_Qv (fun (u : Int32 × Int32 × Int32 × Int32 × Int32 × Int32 × Int32 × Int32 × (Nat → Int32) × (Nat → Int32) × (Nat → Int32)) => (0 ≤ u.1.toInt) ∧ (u.1.toInt ≤ (mi 8).toInt) ∧ (0 ≤ u.2.2.2.2.1.toInt) ∧ (u.2.2.2.2.1.toInt ≤ 4) ∧ (0 ≤ u.2.2.2.2.2.2.1.toInt) ∧ (u.2.2.2.2.2.2.1.toInt ≤ 200 + 157857660 * u.2.2.2.2.1.toInt)) (fun u => QW D cI cJ A ((fun (u : Int32 × Int32 × Int32 × Int32 × Int32 × Int32 × Int32 × Int32 × (Nat → Int32) × (Nat → Int32) × (Nat → Int32)) => (WZ_RoundT cI cJ ad mr (upd (upd (upd (upd (upd (upd (upd (upd mi 10 u.1) 13 u.2.1) 11 u.2.2.1) 12 u.2.2.2.1) 14 u.2.2.2.2.1) 15 u.2.2.2.2.2.1) 2 u.2.2.2.2.2.2.1) 5 u.2.2.2.2.2.2.2.1) (va_up (va_up (va_up mf 1 u.2.2.2.2.2.2.2.2.1) 3 u.2.2.2.2.2.2.2.2.2.1) 4 u.2.2.2.2.2.2.2.2.2.2) mg)) u)) A) (by decide) (Nat.le_of_ble_eq_true rfl) ?_
  intro p e s m below meth c A ls E hr hlk hnm hX hw1 hl2
  have hl3 : lv_has ls 5 [(0, .ref (mr 0)), (1, .ref (mr 6)), (2, .int z_houses)] := hl2
  refine lv_aload_n (pc := 0) E.1 E.2.1 dX7_read_0 rfl (lv_at hl3 0 rfl) ?_
  refine lv_iconst (pc := 1) (v := 0) E.1 E.2.1 dX7_read_1 (by decide +kernel) ?_
  refine x_put (pc := 2) (T := TX7) (N := 5) (ci := 7) (ws' := (WZ_RoundT cI cJ ad mr (upd mi 2 0) mf mg)) E hw1 inX7 tyX7_ok nmX7 0 1 q_421 rfl rfl (by decide) rfl rfl rfl rfl (Nat.le_of_ble_eq_true rfl) rfl dX7_read_2 (fun H locs hw4 => ?_)
  refine lv_aload_n (pc := 5) E.1 E.2.1 dX7_read_5 rfl (lv_at hl3 0 rfl) ?_
  refine lv_iconst (pc := 6) (v := 0) E.1 E.2.1 dX7_read_6 (by decide +kernel) ?_
  refine x_put (pc := 7) (T := TX7) (N := 5) (ci := 7) (ws' := (WZ_RoundT cI cJ ad mr (upd (upd mi 2 0) 5 0) mf mg)) E hw4 inX7 tyX7_ok nmX7 0 4 q_426 rfl rfl (by decide) rfl rfl rfl rfl (Nat.le_of_ble_eq_true rfl) rfl dX7_read_7 (fun H locs hw5 => ?_)
  refine lv_iconst (pc := 10) (v := 0) E.1 E.2.1 dX7_read_10 (by decide +kernel) ?_
  refine lv_istore_n (pc := 11) (lv' := [(3, .int 0), (0, .ref (mr 0)), (1, .ref (mr 6)), (2, .int z_houses)]) E.1 E.2.1 dX7_read_11 rfl hl3 (by decide) rfl (fun ls hl6 => ?_)
  have loop_7 : ∀ (k : Nat) (x_8 : Int32) (x_9 : Int32) (x_10 : Int32) (x_11 : Int32) (x_12 : Int32) (x_13 : Int32) (x_14 : Int32) (x_15 : Int32) (x_16 : Int32) (g_17 : Nat → Int32) (g_18 : Nat → Int32) (g_19 : Nat → Int32) (H : Heap) (locs : List Loc) (ls : Array Slot), (0 ≤ x_9.toInt) ∧ (x_9.toInt ≤ (mi 8).toInt) ∧ (0 ≤ x_13.toInt) ∧ (x_13.toInt ≤ 4) ∧ (0 ≤ x_8.toInt) ∧ (x_8.toInt ≤ 401) ∧ (0 ≤ x_16.toInt) ∧ (x_16.toInt ≤ 4) ∧ (0 ≤ x_15.toInt) ∧ (x_15.toInt ≤ 393660 * x_8.toInt) ∧ (RI g_18 g_19 (x_16.toInt).toNat x_15.toInt (393660 * x_8.toInt)) → 401 - x_8.toInt < (k : Int) → WD D A s.heap (WZ_RoundT cI cJ ad mr (upd (upd (upd (upd (upd (upd (upd (upd mi 2 x_15) 5 x_16) 10 x_9) 11 x_11) 12 x_12) 13 x_10) 14 x_13) 15 x_14) (va_up (va_up (va_up mf 1 g_17) 3 g_18) 4 g_19) mg) H locs → lv_has ls 5 [(3, .int x_8), (0, .ref (mr 0)), (1, .ref (mr 6)), (2, .int z_houses)] → W p l e ({ frames := 9, cells := 0, slots := 0, locals := 216 } : Room) s m ([.ref (mr 0), .ref (mr 6), .int z_houses] : List Value).toArray below meth c H locs 0 0 (MQ below (va_Qv (fun (u : Int32 × Int32 × Int32 × Int32 × Int32 × Int32 × Int32 × Int32 × (Nat → Int32) × (Nat → Int32) × (Nat → Int32)) => (0 ≤ u.1.toInt) ∧ (u.1.toInt ≤ (mi 8).toInt) ∧ (0 ≤ u.2.2.2.2.1.toInt) ∧ (u.2.2.2.2.1.toInt ≤ 4) ∧ (0 ≤ u.2.2.2.2.2.2.1.toInt) ∧ (u.2.2.2.2.2.2.1.toInt ≤ 200 + 157857660 * u.2.2.2.2.1.toInt)) (fun u => QW D cI cJ A ((fun (u : Int32 × Int32 × Int32 × Int32 × Int32 × Int32 × Int32 × Int32 × (Nat → Int32) × (Nat → Int32) × (Nat → Int32)) => (WZ_RoundT cI cJ ad mr (upd (upd (upd (upd (upd (upd (upd (upd mi 10 u.1) 13 u.2.1) 11 u.2.2.1) 12 u.2.2.2.1) 14 u.2.2.2.2.1) 15 u.2.2.2.2.2.1) 2 u.2.2.2.2.2.2.1) 5 u.2.2.2.2.2.2.2.1) (va_up (va_up (va_up mf 1 u.2.2.2.2.2.2.2.2.1) 3 u.2.2.2.2.2.2.2.2.2.1) 4 u.2.2.2.2.2.2.2.2.2.2) mg)) u)) A) ([.ref (mr 0), .ref (mr 6), .int z_houses] : List Value).toArray s 0 0 A) (F0 m 12 ls []) := by
    intro k
    induction k with
    | zero =>
      intro x_8 x_9 x_10 x_11 x_12 x_13 x_14 x_15 x_16 g_17 g_18 g_19 _ _ _ hinv hm
      obtain ⟨hi_19_0, hi_19_1, hi_19_2, hi_19_3, hi_19_4, hi_19_5, hi_19_6, hi_19_7, hi_19_8, hi_19_9, hi_19_10⟩ := hinv
      exact absurd hm (by omega)
    | succ k ih_20 =>
      intro x_8 x_9 x_10 x_11 x_12 x_13 x_14 x_15 x_16 g_17 g_18 g_19 H locs ls hinv hm hw21 hl22
      obtain ⟨hi_19_0, hi_19_1, hi_19_2, hi_19_3, hi_19_4, hi_19_5, hi_19_6, hi_19_7, hi_19_8, hi_19_9, hi_19_10⟩ := hinv
      refine lv_iload_n (pc := 12) E.1 E.2.1 dX7_read_12 rfl (lv_at hl22 0 rfl) ?_
      refine lv_sipush (pc := 13) (v := 400) E.1 E.2.1 dX7_read_13 (by decide +kernel) ?_
      refine lv_icmp_gt (pc := 16) (tgt := 161) E.1 E.2.1 dX7_read_16 (by decide) (fun c_23 => ?_) (fun c_23 => ?_)
      · skip
        have hc_23 := ltE (a := 400) (b := x_8.toInt) (by decide +kernel) rfl c_23
        refine lv_aload_n (pc := 161) E.1 E.2.1 dX7_read_161 rfl (lv_at hl22 1 rfl) ?_
        refine x_get (pc := 162) (T := TX7) (N := 5) (ci := 7) (v := .int x_16) E hw21 inX7 0 4 q_426 rfl rfl (by decide) rfl rfl dX7_read_162 ?_
        refine lv_if_le (pc := 165) (tgt := 173) E.1 E.2.1 dX7_read_165 (by decide) (fun c_24 => ?_) (fun c_24 => ?_)
        · skip
          have hc_24 := leE (a := x_16.toInt) (b := 0) rfl (by decide +kernel) c_24
          refine lv_aload_n (pc := 173) E.1 E.2.1 dX7_read_173 rfl (lv_at hl22 1 rfl) ?_
          refine x_get (pc := 174) (T := TX7) (N := 5) (ci := 7) (v := .int x_15) E hw21 inX7 0 1 q_421 rfl rfl (by decide) rfl rfl dX7_read_174 ?_
          refine lv_sipush (pc := 177) (v := 200) E.1 E.2.1 dX7_read_177 (by decide +kernel) ?_
          refine lv_icmp_le (pc := 180) (tgt := 188) E.1 E.2.1 dX7_read_180 (by decide) (fun c_25 => ?_) (fun c_25 => ?_)
          · skip
            have hc_25 := leE (a := x_15.toInt) (b := 200) rfl (by decide +kernel) c_25
            exact em_v (w1 := (fun (u : Int32 × Int32 × Int32 × Int32 × Int32 × Int32 × Int32 × Int32 × (Nat → Int32) × (Nat → Int32) × (Nat → Int32)) => (WZ_RoundT cI cJ ad mr (upd (upd (upd (upd (upd (upd (upd (upd mi 10 u.1) 13 u.2.1) 11 u.2.2.1) 12 u.2.2.2.1) 14 u.2.2.2.2.1) 15 u.2.2.2.2.2.1) 2 u.2.2.2.2.2.2.1) 5 u.2.2.2.2.2.2.2.1) (va_up (va_up (va_up mf 1 u.2.2.2.2.2.2.2.2.1) 3 u.2.2.2.2.2.2.2.2.2.1) 4 u.2.2.2.2.2.2.2.2.2.2) mg))) E hr hlk (x_9, x_10, x_11, x_12, x_13, x_14, x_15, x_16, g_17, g_18, g_19) hw21 ⟨hi_19_0, hi_19_1, hi_19_2, hi_19_3, hi_19_8, (by show x_15.toInt ≤ 200 + 157857660 * x_13.toInt; omega)⟩ (Nat.le_of_ble_eq_true rfl) (Nat.le_of_ble_eq_true rfl) dX7_read_188
          · skip
            have hc_25 := nleE (a := x_15.toInt) (b := 200) rfl (by decide +kernel) c_25
            refine lv_aload_n (pc := 183) E.1 E.2.1 dX7_read_183 rfl (lv_at hl22 2 rfl) ?_
            refine lv_iconst (pc := 184) (v := 4) E.1 E.2.1 dX7_read_184 (by decide +kernel) ?_
            refine ck_v (pc := 185) (ws' := (fun (u : Int32 × Int32) => (WZ_RoundT cI cJ ad mr (upd (upd (upd (upd (upd (upd (upd (upd mi 2 x_15) 5 x_16) 10 x_9) 11 x_11) 12 x_12) 13 x_10) 14 u.1) 15 u.2) (va_up (va_up (va_up mf 1 g_17) 3 g_18) 4 g_19) mg))) [false, false, false, false, true, true] hw21 rfl (fun hC_ => (rn_V (As := [.int 4]) (rest := []) E hw21 (t_refuse l D cI cJ _ (shf 6 mr) (shf 6 (upd (upd (upd (upd (upd (upd (upd (upd mi 2 x_15) 5 x_16) 10 x_9) 11 x_11) 12 x_12) 13 x_10) 14 x_13) 15 x_14)) (shf 6 (va_up (va_up (va_up mf 1 g_17) 3 g_18) 4 g_19)) (shf 6 mg) 4 ad (by show 1 ≤ (4 : Int32).toInt ∧ (4 : Int32).toInt ≤ 4; have k_0 : (4 : Int32).toInt = 4 := (by decide +kernel); omega) ⟨hi_19_2, hi_19_3⟩) (gdV q_952 q_857 q_858 q_160 q_859) hdV_X8_refuse ⟨rfl, rfl⟩ ⟨(Nat.le_of_ble_eq_true rfl), (Nat.le_of_ble_eq_true rfl)⟩ ⟨(Nat.le_of_ble_eq_true rfl), (Nat.le_of_ble_eq_true rfl)⟩ xT_b xT_at 4 8 rfl rfl rfl _ hC_ (nd_T _ 0) rfl hl22.1 rfl (Nat.le_of_ble_eq_true rfl) dX7_read_185)) rfl (fun _ => rfl) (fun _ => rfl) (fun u_26 H1 locs hp hw28 => ?_)
            obtain ⟨nfault_29, nfaultPlace_30⟩ := u_26
            generalize H1 = H at hw28 ⊢
            have hw31 : WD D A s.heap (WZ_RoundT cI cJ ad mr (upd (upd (upd (upd (upd (upd (upd (upd mi 2 x_15) 5 x_16) 10 x_9) 11 x_11) 12 x_12) 13 x_10) 14 nfault_29) 15 nfaultPlace_30) (va_up (va_up (va_up mf 1 g_17) 3 g_18) 4 g_19) mg) H locs := hw28
            obtain ⟨hp_32, hp_33⟩ := hp
            have hp_32 : 1 ≤ nfault_29.toInt := hp_32
            have hp_33 : nfault_29.toInt ≤ 4 := hp_33
            exact em_v (w1 := (fun (u : Int32 × Int32 × Int32 × Int32 × Int32 × Int32 × Int32 × Int32 × (Nat → Int32) × (Nat → Int32) × (Nat → Int32)) => (WZ_RoundT cI cJ ad mr (upd (upd (upd (upd (upd (upd (upd (upd mi 10 u.1) 13 u.2.1) 11 u.2.2.1) 12 u.2.2.2.1) 14 u.2.2.2.2.1) 15 u.2.2.2.2.2.1) 2 u.2.2.2.2.2.2.1) 5 u.2.2.2.2.2.2.2.1) (va_up (va_up (va_up mf 1 u.2.2.2.2.2.2.2.2.1) 3 u.2.2.2.2.2.2.2.2.2.1) 4 u.2.2.2.2.2.2.2.2.2.2) mg))) E hr hlk (x_9, x_10, x_11, x_12, nfault_29, nfaultPlace_30, x_15, x_16, g_17, g_18, g_19) hw31 ⟨hi_19_0, hi_19_1, (by show 0 ≤ nfault_29.toInt; omega), hp_33, hi_19_8, (by show x_15.toInt ≤ 200 + 157857660 * nfault_29.toInt; omega)⟩ (Nat.le_of_ble_eq_true rfl) (Nat.le_of_ble_eq_true rfl) dX7_read_188
        · skip
          have hc_24 := nleE (a := x_16.toInt) (b := 0) rfl (by decide +kernel) c_24
          refine lv_aload_n (pc := 168) E.1 E.2.1 dX7_read_168 rfl (lv_at hl22 2 rfl) ?_
          refine lv_iconst (pc := 169) (v := 1) E.1 E.2.1 dX7_read_169 (by decide +kernel) ?_
          refine ck_v (pc := 170) (ws' := (fun (u : Int32 × Int32) => (WZ_RoundT cI cJ ad mr (upd (upd (upd (upd (upd (upd (upd (upd mi 2 x_15) 5 x_16) 10 x_9) 11 x_11) 12 x_12) 13 x_10) 14 u.1) 15 u.2) (va_up (va_up (va_up mf 1 g_17) 3 g_18) 4 g_19) mg))) [false, false, false, false, true, true] hw21 rfl (fun hC_ => (rn_V (As := [.int 1]) (rest := []) E hw21 (t_refuse l D cI cJ _ (shf 6 mr) (shf 6 (upd (upd (upd (upd (upd (upd (upd (upd mi 2 x_15) 5 x_16) 10 x_9) 11 x_11) 12 x_12) 13 x_10) 14 x_13) 15 x_14)) (shf 6 (va_up (va_up (va_up mf 1 g_17) 3 g_18) 4 g_19)) (shf 6 mg) 1 ad (by show 1 ≤ (1 : Int32).toInt ∧ (1 : Int32).toInt ≤ 4; have k_0 : (1 : Int32).toInt = 1 := (by decide +kernel); omega) ⟨hi_19_2, hi_19_3⟩) (gdV q_952 q_857 q_858 q_160 q_859) hdV_X8_refuse ⟨rfl, rfl⟩ ⟨(Nat.le_of_ble_eq_true rfl), (Nat.le_of_ble_eq_true rfl)⟩ ⟨(Nat.le_of_ble_eq_true rfl), (Nat.le_of_ble_eq_true rfl)⟩ xT_b xT_at 4 8 rfl rfl rfl _ hC_ (nd_T _ 0) rfl hl22.1 rfl (Nat.le_of_ble_eq_true rfl) dX7_read_170)) rfl (fun _ => rfl) (fun _ => rfl) (fun u_34 H1 locs hp hw36 => ?_)
          obtain ⟨nfault_37, nfaultPlace_38⟩ := u_34
          generalize H1 = H at hw36 ⊢
          have hw39 : WD D A s.heap (WZ_RoundT cI cJ ad mr (upd (upd (upd (upd (upd (upd (upd (upd mi 2 x_15) 5 x_16) 10 x_9) 11 x_11) 12 x_12) 13 x_10) 14 nfault_37) 15 nfaultPlace_38) (va_up (va_up (va_up mf 1 g_17) 3 g_18) 4 g_19) mg) H locs := hw36
          obtain ⟨hp_40, hp_41⟩ := hp
          have hp_40 : 1 ≤ nfault_37.toInt := hp_40
          have hp_41 : nfault_37.toInt ≤ 4 := hp_41
          refine lv_aload_n (pc := 173) E.1 E.2.1 dX7_read_173 rfl (lv_at hl22 1 rfl) ?_
          refine x_get (pc := 174) (T := TX7) (N := 5) (ci := 7) (v := .int x_15) E hw39 inX7 0 1 q_421 rfl rfl (by decide) rfl rfl dX7_read_174 ?_
          refine lv_sipush (pc := 177) (v := 200) E.1 E.2.1 dX7_read_177 (by decide +kernel) ?_
          refine lv_icmp_le (pc := 180) (tgt := 188) E.1 E.2.1 dX7_read_180 (by decide) (fun c_42 => ?_) (fun c_42 => ?_)
          · skip
            have hc_42 := leE (a := x_15.toInt) (b := 200) rfl (by decide +kernel) c_42
            exact em_v (w1 := (fun (u : Int32 × Int32 × Int32 × Int32 × Int32 × Int32 × Int32 × Int32 × (Nat → Int32) × (Nat → Int32) × (Nat → Int32)) => (WZ_RoundT cI cJ ad mr (upd (upd (upd (upd (upd (upd (upd (upd mi 10 u.1) 13 u.2.1) 11 u.2.2.1) 12 u.2.2.2.1) 14 u.2.2.2.2.1) 15 u.2.2.2.2.2.1) 2 u.2.2.2.2.2.2.1) 5 u.2.2.2.2.2.2.2.1) (va_up (va_up (va_up mf 1 u.2.2.2.2.2.2.2.2.1) 3 u.2.2.2.2.2.2.2.2.2.1) 4 u.2.2.2.2.2.2.2.2.2.2) mg))) E hr hlk (x_9, x_10, x_11, x_12, nfault_37, nfaultPlace_38, x_15, x_16, g_17, g_18, g_19) hw39 ⟨hi_19_0, hi_19_1, (by show 0 ≤ nfault_37.toInt; omega), hp_41, hi_19_8, (by show x_15.toInt ≤ 200 + 157857660 * nfault_37.toInt; omega)⟩ (Nat.le_of_ble_eq_true rfl) (Nat.le_of_ble_eq_true rfl) dX7_read_188
          · skip
            have hc_42 := nleE (a := x_15.toInt) (b := 200) rfl (by decide +kernel) c_42
            refine lv_aload_n (pc := 183) E.1 E.2.1 dX7_read_183 rfl (lv_at hl22 2 rfl) ?_
            refine lv_iconst (pc := 184) (v := 4) E.1 E.2.1 dX7_read_184 (by decide +kernel) ?_
            refine ck_v (pc := 185) (ws' := (fun (u : Int32 × Int32) => (WZ_RoundT cI cJ ad mr (upd (upd (upd (upd (upd (upd (upd (upd mi 2 x_15) 5 x_16) 10 x_9) 11 x_11) 12 x_12) 13 x_10) 14 u.1) 15 u.2) (va_up (va_up (va_up mf 1 g_17) 3 g_18) 4 g_19) mg))) [false, false, false, false, true, true] hw39 rfl (fun hC_ => (rn_V (As := [.int 4]) (rest := []) E hw39 (t_refuse l D cI cJ _ (shf 6 mr) (shf 6 (upd (upd (upd (upd (upd (upd (upd (upd mi 2 x_15) 5 x_16) 10 x_9) 11 x_11) 12 x_12) 13 x_10) 14 nfault_37) 15 nfaultPlace_38)) (shf 6 (va_up (va_up (va_up mf 1 g_17) 3 g_18) 4 g_19)) (shf 6 mg) 4 ad (by show 1 ≤ (4 : Int32).toInt ∧ (4 : Int32).toInt ≤ 4; have k_0 : (4 : Int32).toInt = 4 := (by decide +kernel); omega) (by show 0 ≤ nfault_37.toInt ∧ nfault_37.toInt ≤ 4; omega)) (gdV q_952 q_857 q_858 q_160 q_859) hdV_X8_refuse ⟨rfl, rfl⟩ ⟨(Nat.le_of_ble_eq_true rfl), (Nat.le_of_ble_eq_true rfl)⟩ ⟨(Nat.le_of_ble_eq_true rfl), (Nat.le_of_ble_eq_true rfl)⟩ xT_b xT_at 4 8 rfl rfl rfl _ hC_ (nd_T _ 0) rfl hl22.1 rfl (Nat.le_of_ble_eq_true rfl) dX7_read_185)) rfl (fun _ => rfl) (fun _ => rfl) (fun u_43 H1 locs hp hw45 => ?_)
            obtain ⟨nfault_46, nfaultPlace_47⟩ := u_43
            generalize H1 = H at hw45 ⊢
            have hw48 : WD D A s.heap (WZ_RoundT cI cJ ad mr (upd (upd (upd (upd (upd (upd (upd (upd mi 2 x_15) 5 x_16) 10 x_9) 11 x_11) 12 x_12) 13 x_10) 14 nfault_46) 15 nfaultPlace_47) (va_up (va_up (va_up mf 1 g_17) 3 g_18) 4 g_19) mg) H locs := hw45
            obtain ⟨hp_49, hp_50⟩ := hp
            have hp_49 : 1 ≤ nfault_46.toInt := hp_49
            have hp_50 : nfault_46.toInt ≤ 4 := hp_50
            exact em_v (w1 := (fun (u : Int32 × Int32 × Int32 × Int32 × Int32 × Int32 × Int32 × Int32 × (Nat → Int32) × (Nat → Int32) × (Nat → Int32)) => (WZ_RoundT cI cJ ad mr (upd (upd (upd (upd (upd (upd (upd (upd mi 10 u.1) 13 u.2.1) 11 u.2.2.1) 12 u.2.2.2.1) 14 u.2.2.2.2.1) 15 u.2.2.2.2.2.1) 2 u.2.2.2.2.2.2.1) 5 u.2.2.2.2.2.2.2.1) (va_up (va_up (va_up mf 1 u.2.2.2.2.2.2.2.2.1) 3 u.2.2.2.2.2.2.2.2.2.1) 4 u.2.2.2.2.2.2.2.2.2.2) mg))) E hr hlk (x_9, x_10, x_11, x_12, nfault_46, nfaultPlace_47, x_15, x_16, g_17, g_18, g_19) hw48 ⟨hi_19_0, hi_19_1, (by show 0 ≤ nfault_46.toInt; omega), hp_50, hi_19_8, (by show x_15.toInt ≤ 200 + 157857660 * nfault_46.toInt; omega)⟩ (Nat.le_of_ble_eq_true rfl) (Nat.le_of_ble_eq_true rfl) dX7_read_188
      · skip
        have hc_23 := nltE (a := 400) (b := x_8.toInt) (by decide +kernel) rfl c_23
        refine lv_aload_n (pc := 19) E.1 E.2.1 dX7_read_19 rfl (lv_at hl22 2 rfl) ?_
        refine ck_i (pc := 20) (ws' := (fun (u : Unit) => (WZ_RoundT cI cJ ad mr (upd (upd (upd (upd (upd (upd (upd (upd mi 2 x_15) 5 x_16) 10 x_9) 11 x_11) 12 x_12) 13 x_10) 14 x_13) 15 x_14) (va_up (va_up (va_up mf 1 g_17) 3 g_18) 4 g_19) mg))) [false, false, false, false, true, true] hw21 rfl (fun hC_ => (rn_V (As := []) (rest := []) E hw21 (t_goesOn l D cI cJ _ (shf 6 mr) (shf 6 (upd (upd (upd (upd (upd (upd (upd (upd mi 2 x_15) 5 x_16) 10 x_9) 11 x_11) 12 x_12) 13 x_10) 14 x_13) 15 x_14)) (shf 6 (va_up (va_up (va_up mf 1 g_17) 3 g_18) 4 g_19)) (shf 6 mg) ad) (gdV q_940 q_853 q_854 q_160 q_855) hdV_X8_goesOn ⟨rfl, rfl⟩ ⟨(Nat.le_of_ble_eq_true rfl), (Nat.le_of_ble_eq_true rfl)⟩ ⟨(Nat.le_of_ble_eq_true rfl), (Nat.le_of_ble_eq_true rfl)⟩ xT_b xT_at 4 8 rfl rfl rfl _ hC_ (nd_T _ 0) rfl hl22.1 rfl (Nat.le_of_ble_eq_true rfl) dX7_read_20)) rfl (fun _ => rfl) (fun _ => rfl) (fun r_52 u_51 H1 locs hp hw53 => ?_)
        generalize H1 = H at hw53 ⊢
        have hw54 : WD D A s.heap (WZ_RoundT cI cJ ad mr (upd (upd (upd (upd (upd (upd (upd (upd mi 2 x_15) 5 x_16) 10 x_9) 11 x_11) 12 x_12) 13 x_10) 14 x_13) 15 x_14) (va_up (va_up (va_up mf 1 g_17) 3 g_18) 4 g_19) mg) H locs := hw53
        have hp_55 := hp
        rcases hp_55 with ⟨rfl, ha_56, ha_57⟩ | ⟨rfl, ha_58⟩ | ⟨rfl, ha_59⟩
        · skip
          have ha_56 : x_13.toInt = 0 := ha_56
          have ha_57 : ¬ x_11.toInt = 0 := ha_57
          refine lv_if_eq (pc := 23) (tgt := 161) E.1 E.2.1 dX7_read_23 (by decide) (fun c_60 => absurd c_60 (mneE (a := 1) (b := 0) (by decide +kernel) (by decide +kernel) (by omega))) (fun _ => ?_)
          refine lv_aload_n (pc := 26) E.1 E.2.1 dX7_read_26 rfl (lv_at hl22 2 rfl) ?_
          refine x_get (pc := 27) (T := TX8) (N := 9) (ci := 8) (v := .int x_11) E hw54 inX8 4 4 q_542 rfl rfl (by decide) rfl rfl dX7_read_27 ?_
          refine lv_sipush (pc := 30) (v := 256) E.1 E.2.1 dX7_read_30 (by decide +kernel) ?_
          refine lv_icmp_ne (pc := 33) (tgt := 66) E.1 E.2.1 dX7_read_33 (by decide) (fun c_61 => ?_) (fun c_61 => ?_)
          · skip
            have hc_61 := neE (a := x_11.toInt) (b := 256) rfl (by decide +kernel) c_61
            refine lv_aload_n (pc := 66) E.1 E.2.1 dX7_read_66 rfl (lv_at hl22 2 rfl) ?_
            refine x_get (pc := 67) (T := TX8) (N := 9) (ci := 8) (v := .int x_11) E hw54 inX8 4 4 q_542 rfl rfl (by decide) rfl rfl dX7_read_67 ?_
            refine lv_sipush (pc := 70) (v := 257) E.1 E.2.1 dX7_read_70 (by decide +kernel) ?_
            refine lv_icmp_ne (pc := 73) (tgt := 105) E.1 E.2.1 dX7_read_73 (by decide) (fun c_62 => ?_) (fun c_62 => ?_)
            · skip
              have hc_62 := neE (a := x_11.toInt) (b := 257) rfl (by decide +kernel) c_62
              refine lv_aload_n (pc := 105) E.1 E.2.1 dX7_read_105 rfl (lv_at hl22 2 rfl) ?_
              refine x_get (pc := 106) (T := TX8) (N := 9) (ci := 8) (v := .int x_11) E hw54 inX8 4 4 q_542 rfl rfl (by decide) rfl rfl dX7_read_106 ?_
              refine lv_sipush (pc := 109) (v := 258) E.1 E.2.1 dX7_read_109 (by decide +kernel) ?_
              refine lv_icmp_ne (pc := 112) (tgt := 123) E.1 E.2.1 dX7_read_112 (by decide) (fun c_63 => ?_) (fun c_63 => ?_)
              · skip
                have hc_63 := neE (a := x_11.toInt) (b := 258) rfl (by decide +kernel) c_63
                refine lv_aload_n (pc := 123) E.1 E.2.1 dX7_read_123 rfl (lv_at hl22 2 rfl) ?_
                refine x_get (pc := 124) (T := TX8) (N := 9) (ci := 8) (v := .int x_11) E hw54 inX8 4 4 q_542 rfl rfl (by decide) rfl rfl dX7_read_124 ?_
                refine lv_bipush (pc := 127) (v := 41) E.1 E.2.1 dX7_read_127 (by decide +kernel) ?_
                refine lv_icmp_ne (pc := 129) (tgt := 150) E.1 E.2.1 dX7_read_129 (by decide) (fun c_64 => ?_) (fun c_64 => ?_)
                · skip
                  have hc_64 := neE (a := x_11.toInt) (b := 41) rfl (by decide +kernel) c_64
                  refine lv_aload_n (pc := 150) E.1 E.2.1 dX7_read_150 rfl (lv_at hl22 2 rfl) ?_
                  refine lv_iconst (pc := 151) (v := 1) E.1 E.2.1 dX7_read_151 (by decide +kernel) ?_
                  refine ck_v (pc := 152) (ws' := (fun (u : Int32 × Int32) => (WZ_RoundT cI cJ ad mr (upd (upd (upd (upd (upd (upd (upd (upd mi 2 x_15) 5 x_16) 10 x_9) 11 x_11) 12 x_12) 13 x_10) 14 u.1) 15 u.2) (va_up (va_up (va_up mf 1 g_17) 3 g_18) 4 g_19) mg))) [false, false, false, false, true, true] hw54 rfl (fun hC_ => (rn_V (As := [.int 1]) (rest := []) E hw54 (t_refuse l D cI cJ _ (shf 6 mr) (shf 6 (upd (upd (upd (upd (upd (upd (upd (upd mi 2 x_15) 5 x_16) 10 x_9) 11 x_11) 12 x_12) 13 x_10) 14 x_13) 15 x_14)) (shf 6 (va_up (va_up (va_up mf 1 g_17) 3 g_18) 4 g_19)) (shf 6 mg) 1 ad (by show 1 ≤ (1 : Int32).toInt ∧ (1 : Int32).toInt ≤ 4; have k_0 : (1 : Int32).toInt = 1 := (by decide +kernel); omega) ⟨hi_19_2, hi_19_3⟩) (gdV q_952 q_857 q_858 q_160 q_859) hdV_X8_refuse ⟨rfl, rfl⟩ ⟨(Nat.le_of_ble_eq_true rfl), (Nat.le_of_ble_eq_true rfl)⟩ ⟨(Nat.le_of_ble_eq_true rfl), (Nat.le_of_ble_eq_true rfl)⟩ xT_b xT_at 4 8 rfl rfl rfl _ hC_ (nd_T _ 0) rfl hl22.1 rfl (Nat.le_of_ble_eq_true rfl) dX7_read_152)) rfl (fun _ => rfl) (fun _ => rfl) (fun u_65 H1 locs hp hw67 => ?_)
                  obtain ⟨nfault_68, nfaultPlace_69⟩ := u_65
                  generalize H1 = H at hw67 ⊢
                  have hw70 : WD D A s.heap (WZ_RoundT cI cJ ad mr (upd (upd (upd (upd (upd (upd (upd (upd mi 2 x_15) 5 x_16) 10 x_9) 11 x_11) 12 x_12) 13 x_10) 14 nfault_68) 15 nfaultPlace_69) (va_up (va_up (va_up mf 1 g_17) 3 g_18) 4 g_19) mg) H locs := hw67
                  obtain ⟨hp_71, hp_72⟩ := hp
                  have hp_71 : 1 ≤ nfault_68.toInt := hp_71
                  have hp_72 : nfault_68.toInt ≤ 4 := hp_72
                  obtain ⟨v_73, ev_73⟩ : ∃ z : Int32, x_8 + Int32.ofInt (1) = z := ⟨_, rfl⟩
                  have hv_73 : v_73.toInt = x_8.toInt + (1) := by rw [← ev_73]; exact incE rfl (by decide) (by omega)
                  refine lv_iinc (pc := 155) (v := v_73) (lv' := [(3, .int v_73), (0, .ref (mr 0)), (1, .ref (mr 6)), (2, .int z_houses)]) E.1 E.2.1 dX7_read_155 hl22 (k := 0) rfl ev_73 (by decide) rfl (fun ls hl74 => ?_)
                  refine lv_goto (pc := 158) (tgt := 12) E.1 E.2.1 dX7_read_158 (by decide) ?_
                  exact ih_20 v_73 x_9 x_10 x_11 x_12 nfault_68 nfaultPlace_69 x_15 x_16 g_17 g_18 g_19 _ _ _ ⟨hi_19_0, hi_19_1, (by show 0 ≤ nfault_68.toInt; omega), hp_72, (by show 0 ≤ v_73.toInt; omega), (by show v_73.toInt ≤ 401; omega), hi_19_6, hi_19_7, hi_19_8, (by show x_15.toInt ≤ 393660 * v_73.toInt; omega), (RI_more hi_19_10 (by omega))⟩ (by omega) hw70 (lv_sub hl74 [0, 1, 2, 3] rfl)
                · skip
                  have hc_64 := eqE (a := x_11.toInt) (b := 41) rfl (by decide +kernel) c_64
                  refine lv_aload_n (pc := 132) E.1 E.2.1 dX7_read_132 rfl (lv_at hl22 1 rfl) ?_
                  refine x_get (pc := 133) (T := TX7) (N := 5) (ci := 7) (v := .int x_16) E hw54 inX7 0 4 q_426 rfl rfl (by decide) rfl rfl dX7_read_133 ?_
                  refine lv_if_le (pc := 136) (tgt := 150) E.1 E.2.1 dX7_read_136 (by decide) (fun c_75 => ?_) (fun c_75 => ?_)
                  · skip
                    have hc_75 := leE (a := x_16.toInt) (b := 0) rfl (by decide +kernel) c_75
                    refine lv_aload_n (pc := 150) E.1 E.2.1 dX7_read_150 rfl (lv_at hl22 2 rfl) ?_
                    refine lv_iconst (pc := 151) (v := 1) E.1 E.2.1 dX7_read_151 (by decide +kernel) ?_
                    refine ck_v (pc := 152) (ws' := (fun (u : Int32 × Int32) => (WZ_RoundT cI cJ ad mr (upd (upd (upd (upd (upd (upd (upd (upd mi 2 x_15) 5 x_16) 10 x_9) 11 x_11) 12 x_12) 13 x_10) 14 u.1) 15 u.2) (va_up (va_up (va_up mf 1 g_17) 3 g_18) 4 g_19) mg))) [false, false, false, false, true, true] hw54 rfl (fun hC_ => (rn_V (As := [.int 1]) (rest := []) E hw54 (t_refuse l D cI cJ _ (shf 6 mr) (shf 6 (upd (upd (upd (upd (upd (upd (upd (upd mi 2 x_15) 5 x_16) 10 x_9) 11 x_11) 12 x_12) 13 x_10) 14 x_13) 15 x_14)) (shf 6 (va_up (va_up (va_up mf 1 g_17) 3 g_18) 4 g_19)) (shf 6 mg) 1 ad (by show 1 ≤ (1 : Int32).toInt ∧ (1 : Int32).toInt ≤ 4; have k_0 : (1 : Int32).toInt = 1 := (by decide +kernel); omega) ⟨hi_19_2, hi_19_3⟩) (gdV q_952 q_857 q_858 q_160 q_859) hdV_X8_refuse ⟨rfl, rfl⟩ ⟨(Nat.le_of_ble_eq_true rfl), (Nat.le_of_ble_eq_true rfl)⟩ ⟨(Nat.le_of_ble_eq_true rfl), (Nat.le_of_ble_eq_true rfl)⟩ xT_b xT_at 4 8 rfl rfl rfl _ hC_ (nd_T _ 0) rfl hl22.1 rfl (Nat.le_of_ble_eq_true rfl) dX7_read_152)) rfl (fun _ => rfl) (fun _ => rfl) (fun u_76 H1 locs hp hw78 => ?_)
                    obtain ⟨nfault_79, nfaultPlace_80⟩ := u_76
                    generalize H1 = H at hw78 ⊢
                    have hw81 : WD D A s.heap (WZ_RoundT cI cJ ad mr (upd (upd (upd (upd (upd (upd (upd (upd mi 2 x_15) 5 x_16) 10 x_9) 11 x_11) 12 x_12) 13 x_10) 14 nfault_79) 15 nfaultPlace_80) (va_up (va_up (va_up mf 1 g_17) 3 g_18) 4 g_19) mg) H locs := hw78
                    obtain ⟨hp_82, hp_83⟩ := hp
                    have hp_82 : 1 ≤ nfault_79.toInt := hp_82
                    have hp_83 : nfault_79.toInt ≤ 4 := hp_83
                    obtain ⟨v_84, ev_84⟩ : ∃ z : Int32, x_8 + Int32.ofInt (1) = z := ⟨_, rfl⟩
                    have hv_84 : v_84.toInt = x_8.toInt + (1) := by rw [← ev_84]; exact incE rfl (by decide) (by omega)
                    refine lv_iinc (pc := 155) (v := v_84) (lv' := [(3, .int v_84), (0, .ref (mr 0)), (1, .ref (mr 6)), (2, .int z_houses)]) E.1 E.2.1 dX7_read_155 hl22 (k := 0) rfl ev_84 (by decide) rfl (fun ls hl85 => ?_)
                    refine lv_goto (pc := 158) (tgt := 12) E.1 E.2.1 dX7_read_158 (by decide) ?_
                    exact ih_20 v_84 x_9 x_10 x_11 x_12 nfault_79 nfaultPlace_80 x_15 x_16 g_17 g_18 g_19 _ _ _ ⟨hi_19_0, hi_19_1, (by show 0 ≤ nfault_79.toInt; omega), hp_83, (by show 0 ≤ v_84.toInt; omega), (by show v_84.toInt ≤ 401; omega), hi_19_6, hi_19_7, hi_19_8, (by show x_15.toInt ≤ 393660 * v_84.toInt; omega), (RI_more hi_19_10 (by omega))⟩ (by omega) hw81 (lv_sub hl85 [0, 1, 2, 3] rfl)
                  · skip
                    have hc_75 := nleE (a := x_16.toInt) (b := 0) rfl (by decide +kernel) c_75
                    refine lv_aload_n (pc := 139) E.1 E.2.1 dX7_read_139 rfl (lv_at hl22 2 rfl) ?_
                    refine ck_v (pc := 140) (ws' := (fun (u : Int32 × Int32 × Int32 × Int32) => (WZ_RoundT cI cJ ad mr (upd (upd (upd (upd (upd (upd (upd (upd mi 2 x_15) 5 x_16) 10 u.1) 11 u.2.2.1) 12 u.2.2.2) 13 u.2.1) 14 x_13) 15 x_14) (va_up (va_up (va_up mf 1 g_17) 3 g_18) 4 g_19) mg))) [false, false, false, false, true, true] hw54 rfl (fun hC_ => (rn_V (As := []) (rest := []) E hw54 (t_step l D cI cJ _ (shf 6 mr) (shf 6 (upd (upd (upd (upd (upd (upd (upd (upd mi 2 x_15) 5 x_16) 10 x_9) 11 x_11) 12 x_12) 13 x_10) 14 x_13) 15 x_14)) (shf 6 (va_up (va_up (va_up mf 1 g_17) 3 g_18) 4 g_19)) (shf 6 mg) ad av tf h0 hi_19_0 hi_19_1 h3) (gdV q_941 q_723 q_724 q_160 q_725) hdV_X8_step ⟨rfl, rfl⟩ ⟨(Nat.le_of_ble_eq_true rfl), (Nat.le_of_ble_eq_true rfl)⟩ ⟨(Nat.le_of_ble_eq_true rfl), (Nat.le_of_ble_eq_true rfl)⟩ xT8_b (xT8_at hX hw54.2.2.1 (va_free hw54.2.1 hw54.2.2.1 hw54.2.2.2 _ hC_)) 4 8 rfl rfl rfl _ hC_ (nd_T _ 0) rfl hl22.1 rfl (Nat.le_of_ble_eq_true rfl) dX7_read_140)) rfl (fun _ => rfl) (fun _ => rfl) (fun u_86 H1 locs hp hw88 => ?_)
                    obtain ⟨nat_89, nplace_90, nkind_91, nvalue_92⟩ := u_86
                    generalize H1 = H at hw88 ⊢
                    have hw93 : WD D A s.heap (WZ_RoundT cI cJ ad mr (upd (upd (upd (upd (upd (upd (upd (upd mi 2 x_15) 5 x_16) 10 nat_89) 11 nkind_91) 12 nvalue_92) 13 nplace_90) 14 x_13) 15 x_14) (va_up (va_up (va_up mf 1 g_17) 3 g_18) 4 g_19) mg) H locs := hw88
                    obtain ⟨hp_94, hp_95⟩ := hp
                    have hp_94 : 0 ≤ nat_89.toInt := hp_94
                    have hp_95 : nat_89.toInt ≤ (mi 8).toInt := hp_95
                    refine lv_aload_n (pc := 143) E.1 E.2.1 dX7_read_143 rfl (lv_at hl22 1 rfl) ?_
                    refine ck_v (pc := 144) (ws' := (fun (u : Int32 × (Nat → Int32) × Int32) => (WZ_RoundT cI cJ ad mr (upd (upd (upd (upd (upd (upd (upd (upd mi 2 u.2.2) 5 u.1) 10 nat_89) 11 nkind_91) 12 nvalue_92) 13 nplace_90) 14 x_13) 15 x_14) (va_up (va_up (va_up mf 1 u.2.1) 3 g_18) 4 g_19) mg))) [true, true, true, true, false, false] hw93 rfl (fun hC_ => (rn_V (As := []) (rest := []) E hw93 (t_repeat l D cI cJ _ mr (upd (upd (upd (upd (upd (upd (upd (upd mi 2 x_15) 5 x_16) 10 nat_89) 11 nkind_91) 12 nvalue_92) 13 nplace_90) 14 x_13) 15 x_14) (va_up (va_up (va_up mf 1 g_17) 3 g_18) 4 g_19) mg (by show 1 ≤ x_16.toInt ∧ x_16.toInt ≤ 4; omega) hi_19_8 (by show x_15.toInt ≤ 157857660; omega) (show RI g_18 g_19 (x_16.toInt).toNat x_15.toInt 157857660 from (RI_more hi_19_10 (by omega)))) (gdV q_953 q_955 q_17 q_158 q_956) hdV_X7_repeat ⟨rfl, rfl⟩ ⟨(Nat.le_of_ble_eq_true rfl), (Nat.le_of_ble_eq_true rfl)⟩ ⟨(Nat.le_of_ble_eq_true rfl), (Nat.le_of_ble_eq_true rfl)⟩ xT_b xT_at 0 7 rfl rfl rfl _ hC_ (nd_T _ 0) rfl hl22.1 rfl (Nat.le_of_ble_eq_true rfl) dX7_read_144)) rfl (fun _ => rfl) (fun _ => rfl) (fun u_96 H1 locs hp hw98 => ?_)
                    obtain ⟨nopen_99, gstops_100, nsize_101⟩ := u_96
                    generalize H1 = H at hw98 ⊢
                    have hw102 : WD D A s.heap (WZ_RoundT cI cJ ad mr (upd (upd (upd (upd (upd (upd (upd (upd mi 2 nsize_101) 5 nopen_99) 10 nat_89) 11 nkind_91) 12 nvalue_92) 13 nplace_90) 14 x_13) 15 x_14) (va_up (va_up (va_up mf 1 gstops_100) 3 g_18) 4 g_19) mg) H locs := hw98
                    obtain ⟨hp_103, hp_104, hp_105⟩ := hp
                    have hp_103 : nopen_99.toInt = x_16.toInt - 1 := hp_103
                    have hp_104 : 0 ≤ nsize_101.toInt := hp_104
                    have hp_105 : RI g_18 g_19 (nopen_99.toInt).toNat nsize_101.toInt (FX g_18 g_19 (x_16.toInt).toNat x_15.toInt) := hp_105
                    have hrs : nsize_101.toInt ≤ 393660 * x_8.toInt := Int.le_trans (RI_size hp_105) hi_19_10.2
                    refine lv_goto (pc := 147) (tgt := 155) E.1 E.2.1 dX7_read_147 (by decide) ?_
                    obtain ⟨v_106, ev_106⟩ : ∃ z : Int32, x_8 + Int32.ofInt (1) = z := ⟨_, rfl⟩
                    have hv_106 : v_106.toInt = x_8.toInt + (1) := by rw [← ev_106]; exact incE rfl (by decide) (by omega)
                    refine lv_iinc (pc := 155) (v := v_106) (lv' := [(3, .int v_106), (0, .ref (mr 0)), (1, .ref (mr 6)), (2, .int z_houses)]) E.1 E.2.1 dX7_read_155 hl22 (k := 0) rfl ev_106 (by decide) rfl (fun ls hl107 => ?_)
                    refine lv_goto (pc := 158) (tgt := 12) E.1 E.2.1 dX7_read_158 (by decide) ?_
                    exact ih_20 v_106 nat_89 nplace_90 nkind_91 nvalue_92 x_13 x_14 nsize_101 nopen_99 gstops_100 g_18 g_19 _ _ _ ⟨hp_94, hp_95, hi_19_2, hi_19_3, (by show 0 ≤ v_106.toInt; omega), (by show v_106.toInt ≤ 401; omega), (by show 0 ≤ nopen_99.toInt; omega), (by show nopen_99.toInt ≤ 4; omega), hp_104, (by show nsize_101.toInt ≤ 393660 * v_106.toInt; omega), (show RI g_18 g_19 (nopen_99.toInt).toNat nsize_101.toInt (393660 * v_106.toInt) from RI_more hp_105 (Int.le_trans hi_19_10.2 (by omega)))⟩ (by omega) hw102 (lv_sub hl107 [0, 1, 2, 3] rfl)
              · skip
                have hc_63 := eqE (a := x_11.toInt) (b := 258) rfl (by decide +kernel) c_63
                refine lv_aload_n (pc := 115) E.1 E.2.1 dX7_read_115 rfl (lv_at hl22 1 rfl) ?_
                refine lv_aload_n (pc := 116) E.1 E.2.1 dX7_read_116 rfl (lv_at hl22 2 rfl) ?_
                refine ck_v (pc := 117) (ws' := (fun (u : Int32 × Int32 × Int32 × Int32 × Int32 × Int32 × (Nat → Int32) × (Nat → Int32) × Int32) => (WZ_RoundT cI cJ ad mr (upd (upd (upd (upd (upd (upd (upd (upd mi 2 x_15) 5 u.2.2.2.2.2.2.2.2) 10 u.1) 11 u.2.2.1) 12 u.2.2.2.1) 13 u.2.1) 14 u.2.2.2.2.1) 15 u.2.2.2.2.2.1) (va_up (va_up (va_up mf 1 g_17) 3 u.2.2.2.2.2.2.1) 4 u.2.2.2.2.2.2.2.1) mg))) [true, true, true, true, true, true] hw54 rfl (fun hC_ => (rn_V (As := [.ref (mr 6)]) (rest := []) E hw54 (t_readAgain l D cI cJ _ mr (upd (upd (upd (upd (upd (upd (upd (upd mi 2 x_15) 5 x_16) 10 x_9) 11 x_11) 12 x_12) 13 x_10) 14 x_13) 15 x_14) (va_up (va_up (va_up mf 1 g_17) 3 g_18) 4 g_19) mg ad av tf h0 hi_19_0 hi_19_1 h3 ⟨hi_19_2, hi_19_3⟩ ⟨hi_19_6, hi_19_7⟩ hi_19_8 (by show x_15.toInt ≤ 157857660; omega) (show RI g_18 g_19 (x_16.toInt).toNat x_15.toInt (157857660) from (RI_more hi_19_10 (by omega)))) (gdV q_948 q_950 q_16 q_158 q_951) hdV_X7_readAgain ⟨rfl, rfl⟩ ⟨(Nat.le_of_ble_eq_true rfl), (Nat.le_of_ble_eq_true rfl)⟩ ⟨(Nat.le_of_ble_eq_true rfl), (Nat.le_of_ble_eq_true rfl)⟩ xT8_b (xT8_at hX hw54.2.2.1 (va_free hw54.2.1 hw54.2.2.1 hw54.2.2.2 _ hC_)) 0 7 rfl rfl rfl _ hC_ (nd_T _ 0) rfl hl22.1 rfl (Nat.le_of_ble_eq_true rfl) dX7_read_117)) rfl (fun _ => rfl) (fun _ => rfl) (fun u_108 H1 locs hp hw110 => ?_)
                obtain ⟨ntat_111, ntplace_112, ntkind_113, ntvalue_114, ntfault_115, ntfaultPlace_116, gstarts_117, gtimes_118, nopen_119⟩ := u_108
                generalize H1 = H at hw110 ⊢
                have hw120 : WD D A s.heap (WZ_RoundT cI cJ ad mr (upd (upd (upd (upd (upd (upd (upd (upd mi 2 x_15) 5 nopen_119) 10 ntat_111) 11 ntkind_113) 12 ntvalue_114) 13 ntplace_112) 14 ntfault_115) 15 ntfaultPlace_116) (va_up (va_up (va_up mf 1 g_17) 3 gstarts_117) 4 gtimes_118) mg) H locs := hw110
                obtain ⟨hp_121, hp_122, hp_123, hp_124, hp_125, hp_126, hp_127⟩ := hp
                have hp_121 : 0 ≤ ntat_111.toInt := hp_121
                have hp_122 : ntat_111.toInt ≤ (mi 8).toInt := hp_122
                have hp_123 : 0 ≤ ntfault_115.toInt := hp_123
                have hp_124 : ntfault_115.toInt ≤ 4 := hp_124
                have hp_125 : 0 ≤ nopen_119.toInt := hp_125
                have hp_126 : nopen_119.toInt ≤ 4 := hp_126
                have hp_127 : RI gstarts_117 gtimes_118 (nopen_119.toInt).toNat x_15.toInt (FX g_18 g_19 (x_16.toInt).toNat x_15.toInt) := hp_127
                refine lv_goto (pc := 120) (tgt := 155) E.1 E.2.1 dX7_read_120 (by decide) ?_
                obtain ⟨v_128, ev_128⟩ : ∃ z : Int32, x_8 + Int32.ofInt (1) = z := ⟨_, rfl⟩
                have hv_128 : v_128.toInt = x_8.toInt + (1) := by rw [← ev_128]; exact incE rfl (by decide) (by omega)
                refine lv_iinc (pc := 155) (v := v_128) (lv' := [(3, .int v_128), (0, .ref (mr 0)), (1, .ref (mr 6)), (2, .int z_houses)]) E.1 E.2.1 dX7_read_155 hl22 (k := 0) rfl ev_128 (by decide) rfl (fun ls hl129 => ?_)
                refine lv_goto (pc := 158) (tgt := 12) E.1 E.2.1 dX7_read_158 (by decide) ?_
                exact ih_20 v_128 ntat_111 ntplace_112 ntkind_113 ntvalue_114 ntfault_115 ntfaultPlace_116 x_15 nopen_119 g_17 gstarts_117 gtimes_118 _ _ _ ⟨hp_121, hp_122, hp_123, hp_124, (by show 0 ≤ v_128.toInt; omega), (by show v_128.toInt ≤ 401; omega), hp_125, hp_126, hi_19_8, (by show x_15.toInt ≤ 393660 * v_128.toInt; omega), (show RI gstarts_117 gtimes_118 (nopen_119.toInt).toNat x_15.toInt (393660 * v_128.toInt) from RI_more hp_127 (Int.le_trans hi_19_10.2 (by omega)))⟩ (by omega) hw120 (lv_sub hl129 [0, 1, 2, 3] rfl)
            · skip
              have hc_62 := eqE (a := x_11.toInt) (b := 257) rfl (by decide +kernel) c_62
              refine lv_aload_n (pc := 76) E.1 E.2.1 dX7_read_76 rfl (lv_at hl22 2 rfl) ?_
              refine ck_v (pc := 77) (ws' := (fun (u : Int32 × Int32 × Int32 × Int32) => (WZ_RoundT cI cJ ad mr (upd (upd (upd (upd (upd (upd (upd (upd mi 2 x_15) 5 x_16) 10 u.1) 11 u.2.2.1) 12 u.2.2.2) 13 u.2.1) 14 x_13) 15 x_14) (va_up (va_up (va_up mf 1 g_17) 3 g_18) 4 g_19) mg))) [false, false, false, false, true, true] hw54 rfl (fun hC_ => (rn_V (As := []) (rest := []) E hw54 (t_step l D cI cJ _ (shf 6 mr) (shf 6 (upd (upd (upd (upd (upd (upd (upd (upd mi 2 x_15) 5 x_16) 10 x_9) 11 x_11) 12 x_12) 13 x_10) 14 x_13) 15 x_14)) (shf 6 (va_up (va_up (va_up mf 1 g_17) 3 g_18) 4 g_19)) (shf 6 mg) ad av tf h0 hi_19_0 hi_19_1 h3) (gdV q_941 q_723 q_724 q_160 q_725) hdV_X8_step ⟨rfl, rfl⟩ ⟨(Nat.le_of_ble_eq_true rfl), (Nat.le_of_ble_eq_true rfl)⟩ ⟨(Nat.le_of_ble_eq_true rfl), (Nat.le_of_ble_eq_true rfl)⟩ xT8_b (xT8_at hX hw54.2.2.1 (va_free hw54.2.1 hw54.2.2.1 hw54.2.2.2 _ hC_)) 4 8 rfl rfl rfl _ hC_ (nd_T _ 0) rfl hl22.1 rfl (Nat.le_of_ble_eq_true rfl) dX7_read_77)) rfl (fun _ => rfl) (fun _ => rfl) (fun u_130 H1 locs hp hw132 => ?_)
              obtain ⟨nat_133, nplace_134, nkind_135, nvalue_136⟩ := u_130
              generalize H1 = H at hw132 ⊢
              have hw137 : WD D A s.heap (WZ_RoundT cI cJ ad mr (upd (upd (upd (upd (upd (upd (upd (upd mi 2 x_15) 5 x_16) 10 nat_133) 11 nkind_135) 12 nvalue_136) 13 nplace_134) 14 x_13) 15 x_14) (va_up (va_up (va_up mf 1 g_17) 3 g_18) 4 g_19) mg) H locs := hw132
              obtain ⟨hp_138, hp_139⟩ := hp
              have hp_138 : 0 ≤ nat_133.toInt := hp_138
              have hp_139 : nat_133.toInt ≤ (mi 8).toInt := hp_139
              refine lv_aload_n (pc := 80) E.1 E.2.1 dX7_read_80 rfl (lv_at hl22 2 rfl) ?_
              refine lv_iconst (pc := 81) (v := 1) E.1 E.2.1 dX7_read_81 (by decide +kernel) ?_
              refine lv_bipush (pc := 82) (v := 60) E.1 E.2.1 dX7_read_82 (by decide +kernel) ?_
              refine ck_i (pc := 84) (ws' := (fun (u : Int32 × Int32 × Int32 × Int32 × Int32 × Int32) => (WZ_RoundT cI cJ ad mr (upd (upd (upd (upd (upd (upd (upd (upd mi 2 x_15) 5 x_16) 10 u.1) 11 u.2.2.1) 12 u.2.2.2.1) 13 u.2.1) 14 u.2.2.2.2.1) 15 u.2.2.2.2.2) (va_up (va_up (va_up mf 1 g_17) 3 g_18) 4 g_19) mg))) [false, false, false, false, true, true] hw137 rfl (fun hC_ => (rn_V (As := [.int 1, .int 60]) (rest := []) E hw137 (t_numberA l D cI cJ _ (shf 6 mr) (shf 6 (upd (upd (upd (upd (upd (upd (upd (upd mi 2 x_15) 5 x_16) 10 nat_133) 11 nkind_135) 12 nvalue_136) 13 nplace_134) 14 x_13) 15 x_14)) (shf 6 (va_up (va_up (va_up mf 1 g_17) 3 g_18) 4 g_19)) (shf 6 mg) 1 60 ad av tf h0 hp_138 hp_139 h3 ⟨hi_19_2, hi_19_3⟩ (by show (1 : Int32).toInt ≤ (60 : Int32).toInt; have k_0 : (1 : Int32).toInt = 1 := (by decide +kernel); have k_1 : (60 : Int32).toInt = 60 := (by decide +kernel); omega)) (gdV q_942 q_879 q_880 q_160 q_881) hdV_X8_number ⟨rfl, rfl⟩ ⟨(Nat.le_of_ble_eq_true rfl), (Nat.le_of_ble_eq_true rfl)⟩ ⟨(Nat.le_of_ble_eq_true rfl), (Nat.le_of_ble_eq_true rfl)⟩ xT8_b (xT8_at hX hw137.2.2.1 (va_free hw137.2.1 hw137.2.2.1 hw137.2.2.2 _ hC_)) 4 8 rfl rfl rfl _ hC_ (nd_T _ 0) rfl hl22.1 rfl (Nat.le_of_ble_eq_true rfl) dX7_read_84)) rfl (fun _ => rfl) (fun _ => rfl) (fun r_141 u_140 H1 locs hp hw142 => ?_)
              obtain ⟨nat_143, nplace_144, nkind_145, nvalue_146, nfault_147, nfaultPlace_148⟩ := u_140
              generalize H1 = H at hw142 ⊢
              have hw149 : WD D A s.heap (WZ_RoundT cI cJ ad mr (upd (upd (upd (upd (upd (upd (upd (upd mi 2 x_15) 5 x_16) 10 nat_143) 11 nkind_145) 12 nvalue_146) 13 nplace_144) 14 nfault_147) 15 nfaultPlace_148) (va_up (va_up (va_up mf 1 g_17) 3 g_18) 4 g_19) mg) H locs := hw142
              obtain ⟨hp_150, hp_151, hp_152, hp_153, hp_154, hp_155⟩ := hp
              have hp_150 : 0 ≤ nat_143.toInt := hp_150
              have hp_151 : nat_143.toInt ≤ (mi 8).toInt := hp_151
              have hp_152 : 0 ≤ nfault_147.toInt := hp_152
              have hp_153 : nfault_147.toInt ≤ 4 := hp_153
              have hp_154 : (1 : Int32).toInt ≤ r_141.toInt := hp_154
              rw [show (1 : Int32).toInt = 1 from by decide +kernel] at hp_154
              have hp_155 : r_141.toInt ≤ (60 : Int32).toInt := hp_155
              rw [show (60 : Int32).toInt = 60 from by decide +kernel] at hp_155
              refine lv_istore (pc := 87) (lv' := [(4, .int r_141), (3, .int x_8), (0, .ref (mr 0)), (1, .ref (mr 6)), (2, .int z_houses)]) E.1 E.2.1 dX7_read_87 hl22 (by decide) rfl (fun ls hl156 => ?_)
              refine lv_aload_n (pc := 89) E.1 E.2.1 dX7_read_89 rfl (lv_at hl156 3 rfl) ?_
              refine lv_bipush (pc := 90) (v := 59) E.1 E.2.1 dX7_read_90 (by decide +kernel) ?_
              refine ck_v (pc := 92) (ws' := (fun (u : Int32 × Int32 × Int32 × Int32 × Int32 × Int32) => (WZ_RoundT cI cJ ad mr (upd (upd (upd (upd (upd (upd (upd (upd mi 2 x_15) 5 x_16) 10 u.1) 11 u.2.2.1) 12 u.2.2.2.1) 13 u.2.1) 14 u.2.2.2.2.1) 15 u.2.2.2.2.2) (va_up (va_up (va_up mf 1 g_17) 3 g_18) 4 g_19) mg))) [false, false, false, false, true, true] hw149 rfl (fun hC_ => (rn_V (As := [.int 59]) (rest := []) E hw149 (t_pass l D cI cJ _ (shf 6 mr) (shf 6 (upd (upd (upd (upd (upd (upd (upd (upd mi 2 x_15) 5 x_16) 10 nat_143) 11 nkind_145) 12 nvalue_146) 13 nplace_144) 14 nfault_147) 15 nfaultPlace_148)) (shf 6 (va_up (va_up (va_up mf 1 g_17) 3 g_18) 4 g_19)) (shf 6 mg) 59 ad av tf h0 hp_150 hp_151 h3 ⟨hp_152, hp_153⟩) (gdV q_943 q_861 q_862 q_160 q_863) hdV_X8_pass ⟨rfl, rfl⟩ ⟨(Nat.le_of_ble_eq_true rfl), (Nat.le_of_ble_eq_true rfl)⟩ ⟨(Nat.le_of_ble_eq_true rfl), (Nat.le_of_ble_eq_true rfl)⟩ xT8_b (xT8_at hX hw149.2.2.1 (va_free hw149.2.1 hw149.2.2.1 hw149.2.2.2 _ hC_)) 4 8 rfl rfl rfl _ hC_ (nd_T _ 0) rfl hl156.1 rfl (Nat.le_of_ble_eq_true rfl) dX7_read_92)) rfl (fun _ => rfl) (fun _ => rfl) (fun u_157 H1 locs hp hw159 => ?_)
              obtain ⟨nat_160, nplace_161, nkind_162, nvalue_163, nfault_164, nfaultPlace_165⟩ := u_157
              generalize H1 = H at hw159 ⊢
              have hw166 : WD D A s.heap (WZ_RoundT cI cJ ad mr (upd (upd (upd (upd (upd (upd (upd (upd mi 2 x_15) 5 x_16) 10 nat_160) 11 nkind_162) 12 nvalue_163) 13 nplace_161) 14 nfault_164) 15 nfaultPlace_165) (va_up (va_up (va_up mf 1 g_17) 3 g_18) 4 g_19) mg) H locs := hw159
              obtain ⟨hp_167, hp_168, hp_169, hp_170⟩ := hp
              have hp_167 : 0 ≤ nat_160.toInt := hp_167
              have hp_168 : nat_160.toInt ≤ (mi 8).toInt := hp_168
              have hp_169 : 0 ≤ nfault_164.toInt := hp_169
              have hp_170 : nfault_164.toInt ≤ 4 := hp_170
              refine lv_aload_n (pc := 95) E.1 E.2.1 dX7_read_95 rfl (lv_at hl156 2 rfl) ?_
              refine lv_iconst (pc := 96) (v := (-1)) E.1 E.2.1 dX7_read_96 (by decide +kernel) ?_
              refine lv_iload (pc := 97) E.1 E.2.1 dX7_read_97 (lv_at hl156 0 rfl) ?_
              refine ck_v (pc := 99) (ws' := (fun (u : (Nat → Int32) × Int32) => (WZ_RoundT cI cJ ad mr (upd (upd (upd (upd (upd (upd (upd (upd mi 2 u.2) 5 x_16) 10 nat_160) 11 nkind_162) 12 nvalue_163) 13 nplace_161) 14 nfault_164) 15 nfaultPlace_165) (va_up (va_up (va_up mf 1 u.1) 3 g_18) 4 g_19) mg))) [true, true, true, true, false, false] hw166 rfl (fun hC_ => (rn_V (As := [.int (-1), .int r_141]) (rest := []) E hw166 (t_add l D cI cJ _ mr (upd (upd (upd (upd (upd (upd (upd (upd mi 2 x_15) 5 x_16) 10 nat_160) 11 nkind_162) 12 nvalue_163) 13 nplace_161) 14 nfault_164) 15 nfaultPlace_165) (va_up (va_up (va_up mf 1 g_17) 3 g_18) 4 g_19) mg (-1) r_141 hi_19_8 (by show x_15.toInt ≤ 157857660; omega) (by show 0 ≤ r_141.toInt ∧ r_141.toInt ≤ 60; omega)) (gdV q_944 q_946 q_15 q_158 q_947) hdV_X7_add ⟨rfl, rfl⟩ ⟨(Nat.le_of_ble_eq_true rfl), (Nat.le_of_ble_eq_true rfl)⟩ ⟨(Nat.le_of_ble_eq_true rfl), (Nat.le_of_ble_eq_true rfl)⟩ xT_b xT_at 0 7 rfl rfl rfl _ hC_ (nd_T _ 0) rfl hl156.1 rfl (Nat.le_of_ble_eq_true rfl) dX7_read_99)) rfl (fun _ => rfl) (fun _ => rfl) (fun u_171 H1 locs hp hw173 => ?_)
              obtain ⟨gstops_174, nsize_175⟩ := u_171
              generalize H1 = H at hw173 ⊢
              have hw176 : WD D A s.heap (WZ_RoundT cI cJ ad mr (upd (upd (upd (upd (upd (upd (upd (upd mi 2 nsize_175) 5 x_16) 10 nat_160) 11 nkind_162) 12 nvalue_163) 13 nplace_161) 14 nfault_164) 15 nfaultPlace_165) (va_up (va_up (va_up mf 1 gstops_174) 3 g_18) 4 g_19) mg) H locs := hw173
              have hp_177 := hp
              have hp_177 : nsize_175.toInt = x_15.toInt + r_141.toInt := hp_177
              refine lv_goto (pc := 102) (tgt := 155) E.1 E.2.1 dX7_read_102 (by decide) ?_
              obtain ⟨v_178, ev_178⟩ : ∃ z : Int32, x_8 + Int32.ofInt (1) = z := ⟨_, rfl⟩
              have hv_178 : v_178.toInt = x_8.toInt + (1) := by rw [← ev_178]; exact incE rfl (by decide) (by omega)
              refine lv_iinc (pc := 155) (v := v_178) (lv' := [(3, .int v_178), (4, .int r_141), (0, .ref (mr 0)), (1, .ref (mr 6)), (2, .int z_houses)]) E.1 E.2.1 dX7_read_155 hl156 (k := 1) rfl ev_178 (by decide) rfl (fun ls hl179 => ?_)
              refine lv_goto (pc := 158) (tgt := 12) E.1 E.2.1 dX7_read_158 (by decide) ?_
              exact ih_20 v_178 nat_160 nplace_161 nkind_162 nvalue_163 nfault_164 nfaultPlace_165 nsize_175 x_16 gstops_174 g_18 g_19 _ _ _ ⟨hp_167, hp_168, hp_169, hp_170, (by show 0 ≤ v_178.toInt; omega), (by show v_178.toInt ≤ 401; omega), hi_19_6, hi_19_7, (by show 0 ≤ nsize_175.toInt; omega), (by show nsize_175.toInt ≤ 393660 * v_178.toInt; omega), (RI_add (d := nsize_175.toInt - x_15.toInt) hi_19_10 (by omega) (by omega) (by omega) (by omega))⟩ (by omega) hw176 (lv_sub hl179 [0, 2, 3, 4] rfl)
          · skip
            have hc_61 := eqE (a := x_11.toInt) (b := 256) rfl (by decide +kernel) c_61
            refine lv_aload_n (pc := 36) E.1 E.2.1 dX7_read_36 rfl (lv_at hl22 2 rfl) ?_
            refine ck_v (pc := 37) (ws' := (fun (u : Int32 × Int32 × Int32 × Int32) => (WZ_RoundT cI cJ ad mr (upd (upd (upd (upd (upd (upd (upd (upd mi 2 x_15) 5 x_16) 10 u.1) 11 u.2.2.1) 12 u.2.2.2) 13 u.2.1) 14 x_13) 15 x_14) (va_up (va_up (va_up mf 1 g_17) 3 g_18) 4 g_19) mg))) [false, false, false, false, true, true] hw54 rfl (fun hC_ => (rn_V (As := []) (rest := []) E hw54 (t_step l D cI cJ _ (shf 6 mr) (shf 6 (upd (upd (upd (upd (upd (upd (upd (upd mi 2 x_15) 5 x_16) 10 x_9) 11 x_11) 12 x_12) 13 x_10) 14 x_13) 15 x_14)) (shf 6 (va_up (va_up (va_up mf 1 g_17) 3 g_18) 4 g_19)) (shf 6 mg) ad av tf h0 hi_19_0 hi_19_1 h3) (gdV q_941 q_723 q_724 q_160 q_725) hdV_X8_step ⟨rfl, rfl⟩ ⟨(Nat.le_of_ble_eq_true rfl), (Nat.le_of_ble_eq_true rfl)⟩ ⟨(Nat.le_of_ble_eq_true rfl), (Nat.le_of_ble_eq_true rfl)⟩ xT8_b (xT8_at hX hw54.2.2.1 (va_free hw54.2.1 hw54.2.2.1 hw54.2.2.2 _ hC_)) 4 8 rfl rfl rfl _ hC_ (nd_T _ 0) rfl hl22.1 rfl (Nat.le_of_ble_eq_true rfl) dX7_read_37)) rfl (fun _ => rfl) (fun _ => rfl) (fun u_180 H1 locs hp hw182 => ?_)
            obtain ⟨nat_183, nplace_184, nkind_185, nvalue_186⟩ := u_180
            generalize H1 = H at hw182 ⊢
            have hw187 : WD D A s.heap (WZ_RoundT cI cJ ad mr (upd (upd (upd (upd (upd (upd (upd (upd mi 2 x_15) 5 x_16) 10 nat_183) 11 nkind_185) 12 nvalue_186) 13 nplace_184) 14 x_13) 15 x_14) (va_up (va_up (va_up mf 1 g_17) 3 g_18) 4 g_19) mg) H locs := hw182
            obtain ⟨hp_188, hp_189⟩ := hp
            have hp_188 : 0 ≤ nat_183.toInt := hp_188
            have hp_189 : nat_183.toInt ≤ (mi 8).toInt := hp_189
            refine lv_aload_n (pc := 40) E.1 E.2.1 dX7_read_40 rfl (lv_at hl22 2 rfl) ?_
            refine lv_iconst (pc := 41) (v := 0) E.1 E.2.1 dX7_read_41 (by decide +kernel) ?_
            refine lv_iload_n (pc := 42) E.1 E.2.1 dX7_read_42 rfl (lv_at hl22 3 rfl) ?_
            refine lv_iconst (pc := 43) (v := 1) E.1 E.2.1 dX7_read_43 (by decide +kernel) ?_
            refine lv_isub (pc := 44) E.1 E.2.1 dX7_read_44 ?_
            refine lv_topi (fun v_190 ev_190 => ?_)
            have hv_190 : v_190.toInt = z_houses.toInt - 1 := by rw [ev_190]; exact subE rfl (by decide +kernel) (by omega)
            refine ck_i (pc := 45) (ws' := (fun (u : Int32 × Int32 × Int32 × Int32 × Int32 × Int32) => (WZ_RoundT cI cJ ad mr (upd (upd (upd (upd (upd (upd (upd (upd mi 2 x_15) 5 x_16) 10 u.1) 11 u.2.2.1) 12 u.2.2.2.1) 13 u.2.1) 14 u.2.2.2.2.1) 15 u.2.2.2.2.2) (va_up (va_up (va_up mf 1 g_17) 3 g_18) 4 g_19) mg))) [false, false, false, false, true, true] hw187 rfl (fun hC_ => (rn_V (As := [.int 0, .int v_190]) (rest := []) E hw187 (t_numberB l D cI cJ _ (shf 6 mr) (shf 6 (upd (upd (upd (upd (upd (upd (upd (upd mi 2 x_15) 5 x_16) 10 nat_183) 11 nkind_185) 12 nvalue_186) 13 nplace_184) 14 x_13) 15 x_14)) (shf 6 (va_up (va_up (va_up mf 1 g_17) 3 g_18) 4 g_19)) (shf 6 mg) 0 v_190 ad av tf h0 hp_188 hp_189 h3 ⟨hi_19_2, hi_19_3⟩ (by show 0 ≤ (0 : Int32).toInt; have k_0 : (0 : Int32).toInt = 0 := (by decide +kernel); omega) (by show (0 : Int32).toInt ≤ 9; have k_0 : (0 : Int32).toInt = 0 := (by decide +kernel); omega) (by show v_190.toInt ≤ 9; omega)) (gdV q_942 q_879 q_880 q_160 q_881) hdV_X8_number ⟨rfl, rfl⟩ ⟨(Nat.le_of_ble_eq_true rfl), (Nat.le_of_ble_eq_true rfl)⟩ ⟨(Nat.le_of_ble_eq_true rfl), (Nat.le_of_ble_eq_true rfl)⟩ xT8_b (xT8_at hX hw187.2.2.1 (va_free hw187.2.1 hw187.2.2.1 hw187.2.2.2 _ hC_)) 4 8 rfl rfl rfl _ hC_ (nd_T _ 0) rfl hl22.1 rfl (Nat.le_of_ble_eq_true rfl) dX7_read_45)) rfl (fun _ => rfl) (fun _ => rfl) (fun r_192 u_191 H1 locs hp hw193 => ?_)
            obtain ⟨nat_194, nplace_195, nkind_196, nvalue_197, nfault_198, nfaultPlace_199⟩ := u_191
            generalize H1 = H at hw193 ⊢
            have hw200 : WD D A s.heap (WZ_RoundT cI cJ ad mr (upd (upd (upd (upd (upd (upd (upd (upd mi 2 x_15) 5 x_16) 10 nat_194) 11 nkind_196) 12 nvalue_197) 13 nplace_195) 14 nfault_198) 15 nfaultPlace_199) (va_up (va_up (va_up mf 1 g_17) 3 g_18) 4 g_19) mg) H locs := hw193
            obtain ⟨hp_201, hp_202, hp_203, hp_204, hp_205, hp_206⟩ := hp
            have hp_201 : 0 ≤ nat_194.toInt := hp_201
            have hp_202 : nat_194.toInt ≤ (mi 8).toInt := hp_202
            have hp_203 : 0 ≤ nfault_198.toInt := hp_203
            have hp_204 : nfault_198.toInt ≤ 4 := hp_204
            have hp_205 : 0 ≤ r_192.toInt := hp_205
            have hp_206 : r_192.toInt ≤ 9 := hp_206
            refine lv_istore (pc := 48) (lv' := [(4, .int r_192), (3, .int x_8), (0, .ref (mr 0)), (1, .ref (mr 6)), (2, .int z_houses)]) E.1 E.2.1 dX7_read_48 hl22 (by decide) rfl (fun ls hl207 => ?_)
            refine lv_aload_n (pc := 50) E.1 E.2.1 dX7_read_50 rfl (lv_at hl207 3 rfl) ?_
            refine lv_bipush (pc := 51) (v := 59) E.1 E.2.1 dX7_read_51 (by decide +kernel) ?_
            refine ck_v (pc := 53) (ws' := (fun (u : Int32 × Int32 × Int32 × Int32 × Int32 × Int32) => (WZ_RoundT cI cJ ad mr (upd (upd (upd (upd (upd (upd (upd (upd mi 2 x_15) 5 x_16) 10 u.1) 11 u.2.2.1) 12 u.2.2.2.1) 13 u.2.1) 14 u.2.2.2.2.1) 15 u.2.2.2.2.2) (va_up (va_up (va_up mf 1 g_17) 3 g_18) 4 g_19) mg))) [false, false, false, false, true, true] hw200 rfl (fun hC_ => (rn_V (As := [.int 59]) (rest := []) E hw200 (t_pass l D cI cJ _ (shf 6 mr) (shf 6 (upd (upd (upd (upd (upd (upd (upd (upd mi 2 x_15) 5 x_16) 10 nat_194) 11 nkind_196) 12 nvalue_197) 13 nplace_195) 14 nfault_198) 15 nfaultPlace_199)) (shf 6 (va_up (va_up (va_up mf 1 g_17) 3 g_18) 4 g_19)) (shf 6 mg) 59 ad av tf h0 hp_201 hp_202 h3 ⟨hp_203, hp_204⟩) (gdV q_943 q_861 q_862 q_160 q_863) hdV_X8_pass ⟨rfl, rfl⟩ ⟨(Nat.le_of_ble_eq_true rfl), (Nat.le_of_ble_eq_true rfl)⟩ ⟨(Nat.le_of_ble_eq_true rfl), (Nat.le_of_ble_eq_true rfl)⟩ xT8_b (xT8_at hX hw200.2.2.1 (va_free hw200.2.1 hw200.2.2.1 hw200.2.2.2 _ hC_)) 4 8 rfl rfl rfl _ hC_ (nd_T _ 0) rfl hl207.1 rfl (Nat.le_of_ble_eq_true rfl) dX7_read_53)) rfl (fun _ => rfl) (fun _ => rfl) (fun u_208 H1 locs hp hw210 => ?_)
            obtain ⟨nat_211, nplace_212, nkind_213, nvalue_214, nfault_215, nfaultPlace_216⟩ := u_208
            generalize H1 = H at hw210 ⊢
            have hw217 : WD D A s.heap (WZ_RoundT cI cJ ad mr (upd (upd (upd (upd (upd (upd (upd (upd mi 2 x_15) 5 x_16) 10 nat_211) 11 nkind_213) 12 nvalue_214) 13 nplace_212) 14 nfault_215) 15 nfaultPlace_216) (va_up (va_up (va_up mf 1 g_17) 3 g_18) 4 g_19) mg) H locs := hw210
            obtain ⟨hp_218, hp_219, hp_220, hp_221⟩ := hp
            have hp_218 : 0 ≤ nat_211.toInt := hp_218
            have hp_219 : nat_211.toInt ≤ (mi 8).toInt := hp_219
            have hp_220 : 0 ≤ nfault_215.toInt := hp_220
            have hp_221 : nfault_215.toInt ≤ 4 := hp_221
            refine lv_aload_n (pc := 56) E.1 E.2.1 dX7_read_56 rfl (lv_at hl207 2 rfl) ?_
            refine lv_iload (pc := 57) E.1 E.2.1 dX7_read_57 (lv_at hl207 0 rfl) ?_
            refine lv_iconst (pc := 59) (v := 1) E.1 E.2.1 dX7_read_59 (by decide +kernel) ?_
            refine ck_v (pc := 60) (ws' := (fun (u : (Nat → Int32) × Int32) => (WZ_RoundT cI cJ ad mr (upd (upd (upd (upd (upd (upd (upd (upd mi 2 u.2) 5 x_16) 10 nat_211) 11 nkind_213) 12 nvalue_214) 13 nplace_212) 14 nfault_215) 15 nfaultPlace_216) (va_up (va_up (va_up mf 1 u.1) 3 g_18) 4 g_19) mg))) [true, true, true, true, false, false] hw217 rfl (fun hC_ => (rn_V (As := [.int r_192, .int 1]) (rest := []) E hw217 (t_add l D cI cJ _ mr (upd (upd (upd (upd (upd (upd (upd (upd mi 2 x_15) 5 x_16) 10 nat_211) 11 nkind_213) 12 nvalue_214) 13 nplace_212) 14 nfault_215) 15 nfaultPlace_216) (va_up (va_up (va_up mf 1 g_17) 3 g_18) 4 g_19) mg r_192 1 hi_19_8 (by show x_15.toInt ≤ 157857660; omega) (by show 0 ≤ (1 : Int32).toInt ∧ (1 : Int32).toInt ≤ 60; have k_0 : (1 : Int32).toInt = 1 := (by decide +kernel); omega)) (gdV q_944 q_946 q_15 q_158 q_947) hdV_X7_add ⟨rfl, rfl⟩ ⟨(Nat.le_of_ble_eq_true rfl), (Nat.le_of_ble_eq_true rfl)⟩ ⟨(Nat.le_of_ble_eq_true rfl), (Nat.le_of_ble_eq_true rfl)⟩ xT_b xT_at 0 7 rfl rfl rfl _ hC_ (nd_T _ 0) rfl hl207.1 rfl (Nat.le_of_ble_eq_true rfl) dX7_read_60)) rfl (fun _ => rfl) (fun _ => rfl) (fun u_222 H1 locs hp hw224 => ?_)
            obtain ⟨gstops_225, nsize_226⟩ := u_222
            generalize H1 = H at hw224 ⊢
            have hw227 : WD D A s.heap (WZ_RoundT cI cJ ad mr (upd (upd (upd (upd (upd (upd (upd (upd mi 2 nsize_226) 5 x_16) 10 nat_211) 11 nkind_213) 12 nvalue_214) 13 nplace_212) 14 nfault_215) 15 nfaultPlace_216) (va_up (va_up (va_up mf 1 gstops_225) 3 g_18) 4 g_19) mg) H locs := hw224
            have hp_228 := hp
            have hp_228 : nsize_226.toInt = x_15.toInt + (1 : Int32).toInt := hp_228
            rw [show (1 : Int32).toInt = 1 from by decide +kernel] at hp_228
            refine lv_goto (pc := 63) (tgt := 155) E.1 E.2.1 dX7_read_63 (by decide) ?_
            obtain ⟨v_229, ev_229⟩ : ∃ z : Int32, x_8 + Int32.ofInt (1) = z := ⟨_, rfl⟩
            have hv_229 : v_229.toInt = x_8.toInt + (1) := by rw [← ev_229]; exact incE rfl (by decide) (by omega)
            refine lv_iinc (pc := 155) (v := v_229) (lv' := [(3, .int v_229), (4, .int r_192), (0, .ref (mr 0)), (1, .ref (mr 6)), (2, .int z_houses)]) E.1 E.2.1 dX7_read_155 hl207 (k := 1) rfl ev_229 (by decide) rfl (fun ls hl230 => ?_)
            refine lv_goto (pc := 158) (tgt := 12) E.1 E.2.1 dX7_read_158 (by decide) ?_
            exact ih_20 v_229 nat_211 nplace_212 nkind_213 nvalue_214 nfault_215 nfaultPlace_216 nsize_226 x_16 gstops_225 g_18 g_19 _ _ _ ⟨hp_218, hp_219, hp_220, hp_221, (by show 0 ≤ v_229.toInt; omega), (by show v_229.toInt ≤ 401; omega), hi_19_6, hi_19_7, (by show 0 ≤ nsize_226.toInt; omega), (by show nsize_226.toInt ≤ 393660 * v_229.toInt; omega), (RI_add (d := nsize_226.toInt - x_15.toInt) hi_19_10 (by omega) (by omega) (by omega) (by omega))⟩ (by omega) hw227 (lv_sub hl230 [0, 2, 3, 4] rfl)
        · skip
          have ha_58 : ¬ x_13.toInt = 0 := ha_58
          refine lv_if_eq (pc := 23) (tgt := 161) E.1 E.2.1 dX7_read_23 (by decide) (fun _ => ?_) (fun c_231 => absurd (meqE (a := 0) (b := 0) (by decide +kernel) (by decide +kernel) (by omega)) c_231)
          refine lv_aload_n (pc := 161) E.1 E.2.1 dX7_read_161 rfl (lv_at hl22 1 rfl) ?_
          refine x_get (pc := 162) (T := TX7) (N := 5) (ci := 7) (v := .int x_16) E hw54 inX7 0 4 q_426 rfl rfl (by decide) rfl rfl dX7_read_162 ?_
          refine lv_if_le (pc := 165) (tgt := 173) E.1 E.2.1 dX7_read_165 (by decide) (fun c_232 => ?_) (fun c_232 => ?_)
          · skip
            have hc_232 := leE (a := x_16.toInt) (b := 0) rfl (by decide +kernel) c_232
            refine lv_aload_n (pc := 173) E.1 E.2.1 dX7_read_173 rfl (lv_at hl22 1 rfl) ?_
            refine x_get (pc := 174) (T := TX7) (N := 5) (ci := 7) (v := .int x_15) E hw54 inX7 0 1 q_421 rfl rfl (by decide) rfl rfl dX7_read_174 ?_
            refine lv_sipush (pc := 177) (v := 200) E.1 E.2.1 dX7_read_177 (by decide +kernel) ?_
            refine lv_icmp_le (pc := 180) (tgt := 188) E.1 E.2.1 dX7_read_180 (by decide) (fun c_233 => ?_) (fun c_233 => ?_)
            · skip
              have hc_233 := leE (a := x_15.toInt) (b := 200) rfl (by decide +kernel) c_233
              exact em_v (w1 := (fun (u : Int32 × Int32 × Int32 × Int32 × Int32 × Int32 × Int32 × Int32 × (Nat → Int32) × (Nat → Int32) × (Nat → Int32)) => (WZ_RoundT cI cJ ad mr (upd (upd (upd (upd (upd (upd (upd (upd mi 10 u.1) 13 u.2.1) 11 u.2.2.1) 12 u.2.2.2.1) 14 u.2.2.2.2.1) 15 u.2.2.2.2.2.1) 2 u.2.2.2.2.2.2.1) 5 u.2.2.2.2.2.2.2.1) (va_up (va_up (va_up mf 1 u.2.2.2.2.2.2.2.2.1) 3 u.2.2.2.2.2.2.2.2.2.1) 4 u.2.2.2.2.2.2.2.2.2.2) mg))) E hr hlk (x_9, x_10, x_11, x_12, x_13, x_14, x_15, x_16, g_17, g_18, g_19) hw54 ⟨hi_19_0, hi_19_1, hi_19_2, hi_19_3, hi_19_8, (by show x_15.toInt ≤ 200 + 157857660 * x_13.toInt; omega)⟩ (Nat.le_of_ble_eq_true rfl) (Nat.le_of_ble_eq_true rfl) dX7_read_188
            · skip
              have hc_233 := nleE (a := x_15.toInt) (b := 200) rfl (by decide +kernel) c_233
              refine lv_aload_n (pc := 183) E.1 E.2.1 dX7_read_183 rfl (lv_at hl22 2 rfl) ?_
              refine lv_iconst (pc := 184) (v := 4) E.1 E.2.1 dX7_read_184 (by decide +kernel) ?_
              refine ck_v (pc := 185) (ws' := (fun (u : Int32 × Int32) => (WZ_RoundT cI cJ ad mr (upd (upd (upd (upd (upd (upd (upd (upd mi 2 x_15) 5 x_16) 10 x_9) 11 x_11) 12 x_12) 13 x_10) 14 u.1) 15 u.2) (va_up (va_up (va_up mf 1 g_17) 3 g_18) 4 g_19) mg))) [false, false, false, false, true, true] hw54 rfl (fun hC_ => (rn_V (As := [.int 4]) (rest := []) E hw54 (t_refuse l D cI cJ _ (shf 6 mr) (shf 6 (upd (upd (upd (upd (upd (upd (upd (upd mi 2 x_15) 5 x_16) 10 x_9) 11 x_11) 12 x_12) 13 x_10) 14 x_13) 15 x_14)) (shf 6 (va_up (va_up (va_up mf 1 g_17) 3 g_18) 4 g_19)) (shf 6 mg) 4 ad (by show 1 ≤ (4 : Int32).toInt ∧ (4 : Int32).toInt ≤ 4; have k_0 : (4 : Int32).toInt = 4 := (by decide +kernel); omega) ⟨hi_19_2, hi_19_3⟩) (gdV q_952 q_857 q_858 q_160 q_859) hdV_X8_refuse ⟨rfl, rfl⟩ ⟨(Nat.le_of_ble_eq_true rfl), (Nat.le_of_ble_eq_true rfl)⟩ ⟨(Nat.le_of_ble_eq_true rfl), (Nat.le_of_ble_eq_true rfl)⟩ xT_b xT_at 4 8 rfl rfl rfl _ hC_ (nd_T _ 0) rfl hl22.1 rfl (Nat.le_of_ble_eq_true rfl) dX7_read_185)) rfl (fun _ => rfl) (fun _ => rfl) (fun u_234 H1 locs hp hw236 => ?_)
              obtain ⟨nfault_237, nfaultPlace_238⟩ := u_234
              generalize H1 = H at hw236 ⊢
              have hw239 : WD D A s.heap (WZ_RoundT cI cJ ad mr (upd (upd (upd (upd (upd (upd (upd (upd mi 2 x_15) 5 x_16) 10 x_9) 11 x_11) 12 x_12) 13 x_10) 14 nfault_237) 15 nfaultPlace_238) (va_up (va_up (va_up mf 1 g_17) 3 g_18) 4 g_19) mg) H locs := hw236
              obtain ⟨hp_240, hp_241⟩ := hp
              have hp_240 : 1 ≤ nfault_237.toInt := hp_240
              have hp_241 : nfault_237.toInt ≤ 4 := hp_241
              exact em_v (w1 := (fun (u : Int32 × Int32 × Int32 × Int32 × Int32 × Int32 × Int32 × Int32 × (Nat → Int32) × (Nat → Int32) × (Nat → Int32)) => (WZ_RoundT cI cJ ad mr (upd (upd (upd (upd (upd (upd (upd (upd mi 10 u.1) 13 u.2.1) 11 u.2.2.1) 12 u.2.2.2.1) 14 u.2.2.2.2.1) 15 u.2.2.2.2.2.1) 2 u.2.2.2.2.2.2.1) 5 u.2.2.2.2.2.2.2.1) (va_up (va_up (va_up mf 1 u.2.2.2.2.2.2.2.2.1) 3 u.2.2.2.2.2.2.2.2.2.1) 4 u.2.2.2.2.2.2.2.2.2.2) mg))) E hr hlk (x_9, x_10, x_11, x_12, nfault_237, nfaultPlace_238, x_15, x_16, g_17, g_18, g_19) hw239 ⟨hi_19_0, hi_19_1, (by show 0 ≤ nfault_237.toInt; omega), hp_241, hi_19_8, (by show x_15.toInt ≤ 200 + 157857660 * nfault_237.toInt; omega)⟩ (Nat.le_of_ble_eq_true rfl) (Nat.le_of_ble_eq_true rfl) dX7_read_188
          · skip
            have hc_232 := nleE (a := x_16.toInt) (b := 0) rfl (by decide +kernel) c_232
            refine lv_aload_n (pc := 168) E.1 E.2.1 dX7_read_168 rfl (lv_at hl22 2 rfl) ?_
            refine lv_iconst (pc := 169) (v := 1) E.1 E.2.1 dX7_read_169 (by decide +kernel) ?_
            refine ck_v (pc := 170) (ws' := (fun (u : Int32 × Int32) => (WZ_RoundT cI cJ ad mr (upd (upd (upd (upd (upd (upd (upd (upd mi 2 x_15) 5 x_16) 10 x_9) 11 x_11) 12 x_12) 13 x_10) 14 u.1) 15 u.2) (va_up (va_up (va_up mf 1 g_17) 3 g_18) 4 g_19) mg))) [false, false, false, false, true, true] hw54 rfl (fun hC_ => (rn_V (As := [.int 1]) (rest := []) E hw54 (t_refuse l D cI cJ _ (shf 6 mr) (shf 6 (upd (upd (upd (upd (upd (upd (upd (upd mi 2 x_15) 5 x_16) 10 x_9) 11 x_11) 12 x_12) 13 x_10) 14 x_13) 15 x_14)) (shf 6 (va_up (va_up (va_up mf 1 g_17) 3 g_18) 4 g_19)) (shf 6 mg) 1 ad (by show 1 ≤ (1 : Int32).toInt ∧ (1 : Int32).toInt ≤ 4; have k_0 : (1 : Int32).toInt = 1 := (by decide +kernel); omega) ⟨hi_19_2, hi_19_3⟩) (gdV q_952 q_857 q_858 q_160 q_859) hdV_X8_refuse ⟨rfl, rfl⟩ ⟨(Nat.le_of_ble_eq_true rfl), (Nat.le_of_ble_eq_true rfl)⟩ ⟨(Nat.le_of_ble_eq_true rfl), (Nat.le_of_ble_eq_true rfl)⟩ xT_b xT_at 4 8 rfl rfl rfl _ hC_ (nd_T _ 0) rfl hl22.1 rfl (Nat.le_of_ble_eq_true rfl) dX7_read_170)) rfl (fun _ => rfl) (fun _ => rfl) (fun u_242 H1 locs hp hw244 => ?_)
            obtain ⟨nfault_245, nfaultPlace_246⟩ := u_242
            generalize H1 = H at hw244 ⊢
            have hw247 : WD D A s.heap (WZ_RoundT cI cJ ad mr (upd (upd (upd (upd (upd (upd (upd (upd mi 2 x_15) 5 x_16) 10 x_9) 11 x_11) 12 x_12) 13 x_10) 14 nfault_245) 15 nfaultPlace_246) (va_up (va_up (va_up mf 1 g_17) 3 g_18) 4 g_19) mg) H locs := hw244
            obtain ⟨hp_248, hp_249⟩ := hp
            have hp_248 : 1 ≤ nfault_245.toInt := hp_248
            have hp_249 : nfault_245.toInt ≤ 4 := hp_249
            refine lv_aload_n (pc := 173) E.1 E.2.1 dX7_read_173 rfl (lv_at hl22 1 rfl) ?_
            refine x_get (pc := 174) (T := TX7) (N := 5) (ci := 7) (v := .int x_15) E hw247 inX7 0 1 q_421 rfl rfl (by decide) rfl rfl dX7_read_174 ?_
            refine lv_sipush (pc := 177) (v := 200) E.1 E.2.1 dX7_read_177 (by decide +kernel) ?_
            refine lv_icmp_le (pc := 180) (tgt := 188) E.1 E.2.1 dX7_read_180 (by decide) (fun c_250 => ?_) (fun c_250 => ?_)
            · skip
              have hc_250 := leE (a := x_15.toInt) (b := 200) rfl (by decide +kernel) c_250
              exact em_v (w1 := (fun (u : Int32 × Int32 × Int32 × Int32 × Int32 × Int32 × Int32 × Int32 × (Nat → Int32) × (Nat → Int32) × (Nat → Int32)) => (WZ_RoundT cI cJ ad mr (upd (upd (upd (upd (upd (upd (upd (upd mi 10 u.1) 13 u.2.1) 11 u.2.2.1) 12 u.2.2.2.1) 14 u.2.2.2.2.1) 15 u.2.2.2.2.2.1) 2 u.2.2.2.2.2.2.1) 5 u.2.2.2.2.2.2.2.1) (va_up (va_up (va_up mf 1 u.2.2.2.2.2.2.2.2.1) 3 u.2.2.2.2.2.2.2.2.2.1) 4 u.2.2.2.2.2.2.2.2.2.2) mg))) E hr hlk (x_9, x_10, x_11, x_12, nfault_245, nfaultPlace_246, x_15, x_16, g_17, g_18, g_19) hw247 ⟨hi_19_0, hi_19_1, (by show 0 ≤ nfault_245.toInt; omega), hp_249, hi_19_8, (by show x_15.toInt ≤ 200 + 157857660 * nfault_245.toInt; omega)⟩ (Nat.le_of_ble_eq_true rfl) (Nat.le_of_ble_eq_true rfl) dX7_read_188
            · skip
              have hc_250 := nleE (a := x_15.toInt) (b := 200) rfl (by decide +kernel) c_250
              refine lv_aload_n (pc := 183) E.1 E.2.1 dX7_read_183 rfl (lv_at hl22 2 rfl) ?_
              refine lv_iconst (pc := 184) (v := 4) E.1 E.2.1 dX7_read_184 (by decide +kernel) ?_
              refine ck_v (pc := 185) (ws' := (fun (u : Int32 × Int32) => (WZ_RoundT cI cJ ad mr (upd (upd (upd (upd (upd (upd (upd (upd mi 2 x_15) 5 x_16) 10 x_9) 11 x_11) 12 x_12) 13 x_10) 14 u.1) 15 u.2) (va_up (va_up (va_up mf 1 g_17) 3 g_18) 4 g_19) mg))) [false, false, false, false, true, true] hw247 rfl (fun hC_ => (rn_V (As := [.int 4]) (rest := []) E hw247 (t_refuse l D cI cJ _ (shf 6 mr) (shf 6 (upd (upd (upd (upd (upd (upd (upd (upd mi 2 x_15) 5 x_16) 10 x_9) 11 x_11) 12 x_12) 13 x_10) 14 nfault_245) 15 nfaultPlace_246)) (shf 6 (va_up (va_up (va_up mf 1 g_17) 3 g_18) 4 g_19)) (shf 6 mg) 4 ad (by show 1 ≤ (4 : Int32).toInt ∧ (4 : Int32).toInt ≤ 4; have k_0 : (4 : Int32).toInt = 4 := (by decide +kernel); omega) (by show 0 ≤ nfault_245.toInt ∧ nfault_245.toInt ≤ 4; omega)) (gdV q_952 q_857 q_858 q_160 q_859) hdV_X8_refuse ⟨rfl, rfl⟩ ⟨(Nat.le_of_ble_eq_true rfl), (Nat.le_of_ble_eq_true rfl)⟩ ⟨(Nat.le_of_ble_eq_true rfl), (Nat.le_of_ble_eq_true rfl)⟩ xT_b xT_at 4 8 rfl rfl rfl _ hC_ (nd_T _ 0) rfl hl22.1 rfl (Nat.le_of_ble_eq_true rfl) dX7_read_185)) rfl (fun _ => rfl) (fun _ => rfl) (fun u_251 H1 locs hp hw253 => ?_)
              obtain ⟨nfault_254, nfaultPlace_255⟩ := u_251
              generalize H1 = H at hw253 ⊢
              have hw256 : WD D A s.heap (WZ_RoundT cI cJ ad mr (upd (upd (upd (upd (upd (upd (upd (upd mi 2 x_15) 5 x_16) 10 x_9) 11 x_11) 12 x_12) 13 x_10) 14 nfault_254) 15 nfaultPlace_255) (va_up (va_up (va_up mf 1 g_17) 3 g_18) 4 g_19) mg) H locs := hw253
              obtain ⟨hp_257, hp_258⟩ := hp
              have hp_257 : 1 ≤ nfault_254.toInt := hp_257
              have hp_258 : nfault_254.toInt ≤ 4 := hp_258
              exact em_v (w1 := (fun (u : Int32 × Int32 × Int32 × Int32 × Int32 × Int32 × Int32 × Int32 × (Nat → Int32) × (Nat → Int32) × (Nat → Int32)) => (WZ_RoundT cI cJ ad mr (upd (upd (upd (upd (upd (upd (upd (upd mi 10 u.1) 13 u.2.1) 11 u.2.2.1) 12 u.2.2.2.1) 14 u.2.2.2.2.1) 15 u.2.2.2.2.2.1) 2 u.2.2.2.2.2.2.1) 5 u.2.2.2.2.2.2.2.1) (va_up (va_up (va_up mf 1 u.2.2.2.2.2.2.2.2.1) 3 u.2.2.2.2.2.2.2.2.2.1) 4 u.2.2.2.2.2.2.2.2.2.2) mg))) E hr hlk (x_9, x_10, x_11, x_12, nfault_254, nfaultPlace_255, x_15, x_16, g_17, g_18, g_19) hw256 ⟨hi_19_0, hi_19_1, (by show 0 ≤ nfault_254.toInt; omega), hp_258, hi_19_8, (by show x_15.toInt ≤ 200 + 157857660 * nfault_254.toInt; omega)⟩ (Nat.le_of_ble_eq_true rfl) (Nat.le_of_ble_eq_true rfl) dX7_read_188
        · skip
          have ha_59 : x_11.toInt = 0 := ha_59
          refine lv_if_eq (pc := 23) (tgt := 161) E.1 E.2.1 dX7_read_23 (by decide) (fun _ => ?_) (fun c_259 => absurd (meqE (a := 0) (b := 0) (by decide +kernel) (by decide +kernel) (by omega)) c_259)
          refine lv_aload_n (pc := 161) E.1 E.2.1 dX7_read_161 rfl (lv_at hl22 1 rfl) ?_
          refine x_get (pc := 162) (T := TX7) (N := 5) (ci := 7) (v := .int x_16) E hw54 inX7 0 4 q_426 rfl rfl (by decide) rfl rfl dX7_read_162 ?_
          refine lv_if_le (pc := 165) (tgt := 173) E.1 E.2.1 dX7_read_165 (by decide) (fun c_260 => ?_) (fun c_260 => ?_)
          · skip
            have hc_260 := leE (a := x_16.toInt) (b := 0) rfl (by decide +kernel) c_260
            refine lv_aload_n (pc := 173) E.1 E.2.1 dX7_read_173 rfl (lv_at hl22 1 rfl) ?_
            refine x_get (pc := 174) (T := TX7) (N := 5) (ci := 7) (v := .int x_15) E hw54 inX7 0 1 q_421 rfl rfl (by decide) rfl rfl dX7_read_174 ?_
            refine lv_sipush (pc := 177) (v := 200) E.1 E.2.1 dX7_read_177 (by decide +kernel) ?_
            refine lv_icmp_le (pc := 180) (tgt := 188) E.1 E.2.1 dX7_read_180 (by decide) (fun c_261 => ?_) (fun c_261 => ?_)
            · skip
              have hc_261 := leE (a := x_15.toInt) (b := 200) rfl (by decide +kernel) c_261
              exact em_v (w1 := (fun (u : Int32 × Int32 × Int32 × Int32 × Int32 × Int32 × Int32 × Int32 × (Nat → Int32) × (Nat → Int32) × (Nat → Int32)) => (WZ_RoundT cI cJ ad mr (upd (upd (upd (upd (upd (upd (upd (upd mi 10 u.1) 13 u.2.1) 11 u.2.2.1) 12 u.2.2.2.1) 14 u.2.2.2.2.1) 15 u.2.2.2.2.2.1) 2 u.2.2.2.2.2.2.1) 5 u.2.2.2.2.2.2.2.1) (va_up (va_up (va_up mf 1 u.2.2.2.2.2.2.2.2.1) 3 u.2.2.2.2.2.2.2.2.2.1) 4 u.2.2.2.2.2.2.2.2.2.2) mg))) E hr hlk (x_9, x_10, x_11, x_12, x_13, x_14, x_15, x_16, g_17, g_18, g_19) hw54 ⟨hi_19_0, hi_19_1, hi_19_2, hi_19_3, hi_19_8, (by show x_15.toInt ≤ 200 + 157857660 * x_13.toInt; omega)⟩ (Nat.le_of_ble_eq_true rfl) (Nat.le_of_ble_eq_true rfl) dX7_read_188
            · skip
              have hc_261 := nleE (a := x_15.toInt) (b := 200) rfl (by decide +kernel) c_261
              refine lv_aload_n (pc := 183) E.1 E.2.1 dX7_read_183 rfl (lv_at hl22 2 rfl) ?_
              refine lv_iconst (pc := 184) (v := 4) E.1 E.2.1 dX7_read_184 (by decide +kernel) ?_
              refine ck_v (pc := 185) (ws' := (fun (u : Int32 × Int32) => (WZ_RoundT cI cJ ad mr (upd (upd (upd (upd (upd (upd (upd (upd mi 2 x_15) 5 x_16) 10 x_9) 11 x_11) 12 x_12) 13 x_10) 14 u.1) 15 u.2) (va_up (va_up (va_up mf 1 g_17) 3 g_18) 4 g_19) mg))) [false, false, false, false, true, true] hw54 rfl (fun hC_ => (rn_V (As := [.int 4]) (rest := []) E hw54 (t_refuse l D cI cJ _ (shf 6 mr) (shf 6 (upd (upd (upd (upd (upd (upd (upd (upd mi 2 x_15) 5 x_16) 10 x_9) 11 x_11) 12 x_12) 13 x_10) 14 x_13) 15 x_14)) (shf 6 (va_up (va_up (va_up mf 1 g_17) 3 g_18) 4 g_19)) (shf 6 mg) 4 ad (by show 1 ≤ (4 : Int32).toInt ∧ (4 : Int32).toInt ≤ 4; have k_0 : (4 : Int32).toInt = 4 := (by decide +kernel); omega) ⟨hi_19_2, hi_19_3⟩) (gdV q_952 q_857 q_858 q_160 q_859) hdV_X8_refuse ⟨rfl, rfl⟩ ⟨(Nat.le_of_ble_eq_true rfl), (Nat.le_of_ble_eq_true rfl)⟩ ⟨(Nat.le_of_ble_eq_true rfl), (Nat.le_of_ble_eq_true rfl)⟩ xT_b xT_at 4 8 rfl rfl rfl _ hC_ (nd_T _ 0) rfl hl22.1 rfl (Nat.le_of_ble_eq_true rfl) dX7_read_185)) rfl (fun _ => rfl) (fun _ => rfl) (fun u_262 H1 locs hp hw264 => ?_)
              obtain ⟨nfault_265, nfaultPlace_266⟩ := u_262
              generalize H1 = H at hw264 ⊢
              have hw267 : WD D A s.heap (WZ_RoundT cI cJ ad mr (upd (upd (upd (upd (upd (upd (upd (upd mi 2 x_15) 5 x_16) 10 x_9) 11 x_11) 12 x_12) 13 x_10) 14 nfault_265) 15 nfaultPlace_266) (va_up (va_up (va_up mf 1 g_17) 3 g_18) 4 g_19) mg) H locs := hw264
              obtain ⟨hp_268, hp_269⟩ := hp
              have hp_268 : 1 ≤ nfault_265.toInt := hp_268
              have hp_269 : nfault_265.toInt ≤ 4 := hp_269
              exact em_v (w1 := (fun (u : Int32 × Int32 × Int32 × Int32 × Int32 × Int32 × Int32 × Int32 × (Nat → Int32) × (Nat → Int32) × (Nat → Int32)) => (WZ_RoundT cI cJ ad mr (upd (upd (upd (upd (upd (upd (upd (upd mi 10 u.1) 13 u.2.1) 11 u.2.2.1) 12 u.2.2.2.1) 14 u.2.2.2.2.1) 15 u.2.2.2.2.2.1) 2 u.2.2.2.2.2.2.1) 5 u.2.2.2.2.2.2.2.1) (va_up (va_up (va_up mf 1 u.2.2.2.2.2.2.2.2.1) 3 u.2.2.2.2.2.2.2.2.2.1) 4 u.2.2.2.2.2.2.2.2.2.2) mg))) E hr hlk (x_9, x_10, x_11, x_12, nfault_265, nfaultPlace_266, x_15, x_16, g_17, g_18, g_19) hw267 ⟨hi_19_0, hi_19_1, (by show 0 ≤ nfault_265.toInt; omega), hp_269, hi_19_8, (by show x_15.toInt ≤ 200 + 157857660 * nfault_265.toInt; omega)⟩ (Nat.le_of_ble_eq_true rfl) (Nat.le_of_ble_eq_true rfl) dX7_read_188
          · skip
            have hc_260 := nleE (a := x_16.toInt) (b := 0) rfl (by decide +kernel) c_260
            refine lv_aload_n (pc := 168) E.1 E.2.1 dX7_read_168 rfl (lv_at hl22 2 rfl) ?_
            refine lv_iconst (pc := 169) (v := 1) E.1 E.2.1 dX7_read_169 (by decide +kernel) ?_
            refine ck_v (pc := 170) (ws' := (fun (u : Int32 × Int32) => (WZ_RoundT cI cJ ad mr (upd (upd (upd (upd (upd (upd (upd (upd mi 2 x_15) 5 x_16) 10 x_9) 11 x_11) 12 x_12) 13 x_10) 14 u.1) 15 u.2) (va_up (va_up (va_up mf 1 g_17) 3 g_18) 4 g_19) mg))) [false, false, false, false, true, true] hw54 rfl (fun hC_ => (rn_V (As := [.int 1]) (rest := []) E hw54 (t_refuse l D cI cJ _ (shf 6 mr) (shf 6 (upd (upd (upd (upd (upd (upd (upd (upd mi 2 x_15) 5 x_16) 10 x_9) 11 x_11) 12 x_12) 13 x_10) 14 x_13) 15 x_14)) (shf 6 (va_up (va_up (va_up mf 1 g_17) 3 g_18) 4 g_19)) (shf 6 mg) 1 ad (by show 1 ≤ (1 : Int32).toInt ∧ (1 : Int32).toInt ≤ 4; have k_0 : (1 : Int32).toInt = 1 := (by decide +kernel); omega) ⟨hi_19_2, hi_19_3⟩) (gdV q_952 q_857 q_858 q_160 q_859) hdV_X8_refuse ⟨rfl, rfl⟩ ⟨(Nat.le_of_ble_eq_true rfl), (Nat.le_of_ble_eq_true rfl)⟩ ⟨(Nat.le_of_ble_eq_true rfl), (Nat.le_of_ble_eq_true rfl)⟩ xT_b xT_at 4 8 rfl rfl rfl _ hC_ (nd_T _ 0) rfl hl22.1 rfl (Nat.le_of_ble_eq_true rfl) dX7_read_170)) rfl (fun _ => rfl) (fun _ => rfl) (fun u_270 H1 locs hp hw272 => ?_)
            obtain ⟨nfault_273, nfaultPlace_274⟩ := u_270
            generalize H1 = H at hw272 ⊢
            have hw275 : WD D A s.heap (WZ_RoundT cI cJ ad mr (upd (upd (upd (upd (upd (upd (upd (upd mi 2 x_15) 5 x_16) 10 x_9) 11 x_11) 12 x_12) 13 x_10) 14 nfault_273) 15 nfaultPlace_274) (va_up (va_up (va_up mf 1 g_17) 3 g_18) 4 g_19) mg) H locs := hw272
            obtain ⟨hp_276, hp_277⟩ := hp
            have hp_276 : 1 ≤ nfault_273.toInt := hp_276
            have hp_277 : nfault_273.toInt ≤ 4 := hp_277
            refine lv_aload_n (pc := 173) E.1 E.2.1 dX7_read_173 rfl (lv_at hl22 1 rfl) ?_
            refine x_get (pc := 174) (T := TX7) (N := 5) (ci := 7) (v := .int x_15) E hw275 inX7 0 1 q_421 rfl rfl (by decide) rfl rfl dX7_read_174 ?_
            refine lv_sipush (pc := 177) (v := 200) E.1 E.2.1 dX7_read_177 (by decide +kernel) ?_
            refine lv_icmp_le (pc := 180) (tgt := 188) E.1 E.2.1 dX7_read_180 (by decide) (fun c_278 => ?_) (fun c_278 => ?_)
            · skip
              have hc_278 := leE (a := x_15.toInt) (b := 200) rfl (by decide +kernel) c_278
              exact em_v (w1 := (fun (u : Int32 × Int32 × Int32 × Int32 × Int32 × Int32 × Int32 × Int32 × (Nat → Int32) × (Nat → Int32) × (Nat → Int32)) => (WZ_RoundT cI cJ ad mr (upd (upd (upd (upd (upd (upd (upd (upd mi 10 u.1) 13 u.2.1) 11 u.2.2.1) 12 u.2.2.2.1) 14 u.2.2.2.2.1) 15 u.2.2.2.2.2.1) 2 u.2.2.2.2.2.2.1) 5 u.2.2.2.2.2.2.2.1) (va_up (va_up (va_up mf 1 u.2.2.2.2.2.2.2.2.1) 3 u.2.2.2.2.2.2.2.2.2.1) 4 u.2.2.2.2.2.2.2.2.2.2) mg))) E hr hlk (x_9, x_10, x_11, x_12, nfault_273, nfaultPlace_274, x_15, x_16, g_17, g_18, g_19) hw275 ⟨hi_19_0, hi_19_1, (by show 0 ≤ nfault_273.toInt; omega), hp_277, hi_19_8, (by show x_15.toInt ≤ 200 + 157857660 * nfault_273.toInt; omega)⟩ (Nat.le_of_ble_eq_true rfl) (Nat.le_of_ble_eq_true rfl) dX7_read_188
            · skip
              have hc_278 := nleE (a := x_15.toInt) (b := 200) rfl (by decide +kernel) c_278
              refine lv_aload_n (pc := 183) E.1 E.2.1 dX7_read_183 rfl (lv_at hl22 2 rfl) ?_
              refine lv_iconst (pc := 184) (v := 4) E.1 E.2.1 dX7_read_184 (by decide +kernel) ?_
              refine ck_v (pc := 185) (ws' := (fun (u : Int32 × Int32) => (WZ_RoundT cI cJ ad mr (upd (upd (upd (upd (upd (upd (upd (upd mi 2 x_15) 5 x_16) 10 x_9) 11 x_11) 12 x_12) 13 x_10) 14 u.1) 15 u.2) (va_up (va_up (va_up mf 1 g_17) 3 g_18) 4 g_19) mg))) [false, false, false, false, true, true] hw275 rfl (fun hC_ => (rn_V (As := [.int 4]) (rest := []) E hw275 (t_refuse l D cI cJ _ (shf 6 mr) (shf 6 (upd (upd (upd (upd (upd (upd (upd (upd mi 2 x_15) 5 x_16) 10 x_9) 11 x_11) 12 x_12) 13 x_10) 14 nfault_273) 15 nfaultPlace_274)) (shf 6 (va_up (va_up (va_up mf 1 g_17) 3 g_18) 4 g_19)) (shf 6 mg) 4 ad (by show 1 ≤ (4 : Int32).toInt ∧ (4 : Int32).toInt ≤ 4; have k_0 : (4 : Int32).toInt = 4 := (by decide +kernel); omega) (by show 0 ≤ nfault_273.toInt ∧ nfault_273.toInt ≤ 4; omega)) (gdV q_952 q_857 q_858 q_160 q_859) hdV_X8_refuse ⟨rfl, rfl⟩ ⟨(Nat.le_of_ble_eq_true rfl), (Nat.le_of_ble_eq_true rfl)⟩ ⟨(Nat.le_of_ble_eq_true rfl), (Nat.le_of_ble_eq_true rfl)⟩ xT_b xT_at 4 8 rfl rfl rfl _ hC_ (nd_T _ 0) rfl hl22.1 rfl (Nat.le_of_ble_eq_true rfl) dX7_read_185)) rfl (fun _ => rfl) (fun _ => rfl) (fun u_279 H1 locs hp hw281 => ?_)
              obtain ⟨nfault_282, nfaultPlace_283⟩ := u_279
              generalize H1 = H at hw281 ⊢
              have hw284 : WD D A s.heap (WZ_RoundT cI cJ ad mr (upd (upd (upd (upd (upd (upd (upd (upd mi 2 x_15) 5 x_16) 10 x_9) 11 x_11) 12 x_12) 13 x_10) 14 nfault_282) 15 nfaultPlace_283) (va_up (va_up (va_up mf 1 g_17) 3 g_18) 4 g_19) mg) H locs := hw281
              obtain ⟨hp_285, hp_286⟩ := hp
              have hp_285 : 1 ≤ nfault_282.toInt := hp_285
              have hp_286 : nfault_282.toInt ≤ 4 := hp_286
              exact em_v (w1 := (fun (u : Int32 × Int32 × Int32 × Int32 × Int32 × Int32 × Int32 × Int32 × (Nat → Int32) × (Nat → Int32) × (Nat → Int32)) => (WZ_RoundT cI cJ ad mr (upd (upd (upd (upd (upd (upd (upd (upd mi 10 u.1) 13 u.2.1) 11 u.2.2.1) 12 u.2.2.2.1) 14 u.2.2.2.2.1) 15 u.2.2.2.2.2.1) 2 u.2.2.2.2.2.2.1) 5 u.2.2.2.2.2.2.2.1) (va_up (va_up (va_up mf 1 u.2.2.2.2.2.2.2.2.1) 3 u.2.2.2.2.2.2.2.2.2.1) 4 u.2.2.2.2.2.2.2.2.2.2) mg))) E hr hlk (x_9, x_10, x_11, x_12, nfault_282, nfaultPlace_283, x_15, x_16, g_17, g_18, g_19) hw284 ⟨hi_19_0, hi_19_1, (by show 0 ≤ nfault_282.toInt; omega), hp_286, hi_19_8, (by show x_15.toInt ≤ 200 + 157857660 * nfault_282.toInt; omega)⟩ (Nat.le_of_ble_eq_true rfl) (Nat.le_of_ble_eq_true rfl) dX7_read_188
  exact loop_7 (Int.toNat (401 - 0) + 1) 0 (mi 10) (mi 13) (mi 11) (mi 12) (mi 14) (mi 15) 0 0 (mf 1) (mf 3) (mf 4) _ _ _ ⟨h1, h2, h4.1, h4.2, (by show 0 ≤ (0 : Int32).toInt; have k_0 : (0 : Int32).toInt = 0 := (by decide +kernel); omega), (by show (0 : Int32).toInt ≤ 401; have k_0 : (0 : Int32).toInt = 0 := (by decide +kernel); omega), (by show 0 ≤ (0 : Int32).toInt; have k_0 : (0 : Int32).toInt = 0 := (by decide +kernel); omega), (by show (0 : Int32).toInt ≤ 4; have k_0 : (0 : Int32).toInt = 0 := (by decide +kernel); omega), (by show 0 ≤ (0 : Int32).toInt; have k_0 : (0 : Int32).toInt = 0 := (by decide +kernel); omega), (by show (0 : Int32).toInt ≤ 393660 * (0 : Int32).toInt; have k_0 : (0 : Int32).toInt = 0 := (by decide +kernel); omega), (RI_nil (by decide +kernel))⟩ (by have k_0 : (0 : Int32).toInt = 0 := (by decide +kernel); have k_7 : (0 : Int32).toInt = 0 := (by decide +kernel); have k_8 : (0 : Int32).toInt = 0 := (by decide +kernel); omega) hw5 (lv_sub hl6 [0, 1, 2, 3] rfl)
