set_option maxHeartbeats 4000000 in
set_option maxRecDepth 100000 in
theorem t_needsRead (l : Launch) (D : va_G) (cI cJ : ClassId) (sz : Nat) (mr : Nat → Nat) (mi : Nat → Int32) (mf : Nat → Nat → Int32) (mg : Nat → Nat → Int64) (z_houses : Int32) (ad av : Nat → Nat) (tf : Value) (h0 : 0 ≤ (mi 9).toInt ∧ (mi 9).toInt ≤ 400) (h1 : 0 ≤ (mi 11).toInt) (h2 : (mi 11).toInt ≤ (mi 9).toInt) (h3 : 0 ≤ (mi 10).toInt ∧ (mi 10).toInt ≤ 6) (h4 : 0 ≤ (mi 15).toInt ∧ (mi 15).toInt ≤ 4) (h5 : 0 ≤ z_houses.toInt ∧ z_houses.toInt ≤ 10) : Met l yX3_read (Cond.code yX3_read cX3_read 4 none :: GW) ({ frames := 9, cells := 0, slots := 0, locals := 221 } : Room) (va_Pc [.ref (mr 0), .ref (mr 7), .int z_houses] (PW D cI cJ sz (WZ_NeedsT cI cJ ad mr mi mf mg) (xT8 ad av tf (va_A (WZ_NeedsT cI cJ ad mr mi mf mg) sz)))) (va_Qv (fun (u : Int32 × Int32 × Int32 × Int32 × Int32 × Int32 × (Nat → Int32) × (Nat → Int32) × (Nat → Int32) × (Nat → Int32) × (Nat → Int32) × Int32) => (0 ≤ u.1.toInt) ∧ (u.1.toInt ≤ (mi 9).toInt) ∧ (0 ≤ u.2.2.2.2.1.toInt) ∧ (u.2.2.2.2.1.toInt ≤ 4) ∧ (0 ≤ u.2.2.2.2.2.2.2.2.2.2.2.toInt) ∧ (u.2.2.2.2.2.2.2.2.2.2.2.toInt ≤ 10)) (fun u => QW D cI cJ (va_A (WZ_NeedsT cI cJ ad mr mi mf mg) sz) ((fun (u : Int32 × Int32 × Int32 × Int32 × Int32 × Int32 × (Nat → Int32) × (Nat → Int32) × (Nat → Int32) × (Nat → Int32) × (Nat → Int32) × Int32) => (WZ_NeedsT cI cJ ad mr (upd (upd (upd (upd (upd (upd (upd mi 11 u.1) 14 u.2.1) 12 u.2.2.1) 13 u.2.2.2.1) 15 u.2.2.2.2.1) 16 u.2.2.2.2.2.1) 6 u.2.2.2.2.2.2.2.2.2.2.2) (va_up (va_up (va_up (va_up (va_up mf 1 u.2.2.2.2.2.2.1) 2 u.2.2.2.2.2.2.2.1) 3 u.2.2.2.2.2.2.2.2.1) 4 u.2.2.2.2.2.2.2.2.2.1) 5 u.2.2.2.2.2.2.2.2.2.2.1) mg)) u)) (va_A (WZ_NeedsT cI cJ ad mr mi mf mg) sz)) 0 0 (va_A (WZ_NeedsT cI cJ ad mr mi mf mg) sz) := by
  refine mk_metA (X := fun A => xT8 ad av tf A) (y := yX3_read) (bytes := cX3_read) (maxL := 4) (avs := [.ref (mr 0), .ref (mr 7), .int z_houses]) (WS := (WZ_NeedsT cI cJ ad mr mi mf mg)) (Qf := fun A => va_Qv (fun (u : Int32 × Int32 × Int32 × Int32 × Int32 × Int32 × (Nat → Int32) × (Nat → Int32) × (Nat → Int32) × (Nat → Int32) × (Nat → Int32) × Int32) => (0 ≤ u.1.toInt) ∧ (u.1.toInt ≤ (mi 9).toInt) ∧ (0 ≤ u.2.2.2.2.1.toInt) ∧ (u.2.2.2.2.1.toInt ≤ 4) ∧ (0 ≤ u.2.2.2.2.2.2.2.2.2.2.2.toInt) ∧ (u.2.2.2.2.2.2.2.2.2.2.2.toInt ≤ 10)) (fun u => QW D cI cJ A ((fun (u : Int32 × Int32 × Int32 × Int32 × Int32 × Int32 × (Nat → Int32) × (Nat → Int32) × (Nat → Int32) × (Nat → Int32) × (Nat → Int32) × Int32) => (WZ_NeedsT cI cJ ad mr (upd (upd (upd (upd (upd (upd (upd mi 11 u.1) 14 u.2.1) 12 u.2.2.1) 13 u.2.2.2.1) 15 u.2.2.2.2.1) 16 u.2.2.2.2.2.1) 6 u.2.2.2.2.2.2.2.2.2.2.2) (va_up (va_up (va_up (va_up (va_up mf 1 u.2.2.2.2.2.2.1) 2 u.2.2.2.2.2.2.2.1) 3 u.2.2.2.2.2.2.2.2.1) 4 u.2.2.2.2.2.2.2.2.2.1) 5 u.2.2.2.2.2.2.2.2.2.2.1) mg)) u)) A) (by decide) (Nat.le_of_ble_eq_true rfl) ?_
  intro p e s m below meth c A ls E hr hlk hnm hX hw1 hl2
  have hl3 : lv_has ls 4 [(0, .ref (mr 0)), (1, .ref (mr 7)), (2, .int z_houses)] := hl2
  refine lv_aload_n (pc := 0) E.1 E.2.1 dX3_read_0 rfl (lv_at hl3 0 rfl) ?_
  refine lv_iconst (pc := 1) (v := 0) E.1 E.2.1 dX3_read_1 (by decide +kernel) ?_
  refine x_put (pc := 2) (T := TX3) (N := 6) (ci := 3) (ws' := (WZ_NeedsT cI cJ ad mr (upd mi 6 0) mf mg)) E hw1 inX3 tyX3_ok nmX3 0 5 q_361 rfl rfl (by decide) rfl rfl rfl rfl (Nat.le_of_ble_eq_true rfl) rfl dX3_read_2 (fun H locs hw4 => ?_)
  refine lv_iconst (pc := 5) (v := 0) E.1 E.2.1 dX3_read_5 (by decide +kernel) ?_
  refine lv_istore_n (pc := 6) (lv' := [(3, .int 0), (0, .ref (mr 0)), (1, .ref (mr 7)), (2, .int z_houses)]) E.1 E.2.1 dX3_read_6 rfl hl3 (by decide) rfl (fun ls hl5 => ?_)
  have loop_6 : ∀ (k : Nat) (x_7 : Int32) (x_8 : Int32) (x_9 : Int32) (x_10 : Int32) (x_11 : Int32) (x_12 : Int32) (x_13 : Int32) (x_14 : Int32) (g_15 : Nat → Int32) (g_16 : Nat → Int32) (g_17 : Nat → Int32) (g_18 : Nat → Int32) (g_19 : Nat → Int32) (H : Heap) (locs : List Loc) (ls : Array Slot), (0 ≤ x_8.toInt) ∧ (x_8.toInt ≤ (mi 9).toInt) ∧ (0 ≤ x_12.toInt) ∧ (x_12.toInt ≤ 4) ∧ (0 ≤ x_14.toInt) ∧ (x_14.toInt ≤ 10) ∧ (0 ≤ x_7.toInt) ∧ (x_7.toInt ≤ 401) → 401 - x_7.toInt < (k : Int) → WD D A s.heap (WZ_NeedsT cI cJ ad mr (upd (upd (upd (upd (upd (upd (upd mi 6 x_14) 11 x_8) 12 x_10) 13 x_11) 14 x_9) 15 x_12) 16 x_13) (va_up (va_up (va_up (va_up (va_up mf 1 g_15) 2 g_16) 3 g_17) 4 g_18) 5 g_19) mg) H locs → lv_has ls 4 [(3, .int x_7), (0, .ref (mr 0)), (1, .ref (mr 7)), (2, .int z_houses)] → W p l e ({ frames := 9, cells := 0, slots := 0, locals := 221 } : Room) s m ([.ref (mr 0), .ref (mr 7), .int z_houses] : List Value).toArray below meth c H locs 0 0 (MQ below (va_Qv (fun (u : Int32 × Int32 × Int32 × Int32 × Int32 × Int32 × (Nat → Int32) × (Nat → Int32) × (Nat → Int32) × (Nat → Int32) × (Nat → Int32) × Int32) => (0 ≤ u.1.toInt) ∧ (u.1.toInt ≤ (mi 9).toInt) ∧ (0 ≤ u.2.2.2.2.1.toInt) ∧ (u.2.2.2.2.1.toInt ≤ 4) ∧ (0 ≤ u.2.2.2.2.2.2.2.2.2.2.2.toInt) ∧ (u.2.2.2.2.2.2.2.2.2.2.2.toInt ≤ 10)) (fun u => QW D cI cJ A ((fun (u : Int32 × Int32 × Int32 × Int32 × Int32 × Int32 × (Nat → Int32) × (Nat → Int32) × (Nat → Int32) × (Nat → Int32) × (Nat → Int32) × Int32) => (WZ_NeedsT cI cJ ad mr (upd (upd (upd (upd (upd (upd (upd mi 11 u.1) 14 u.2.1) 12 u.2.2.1) 13 u.2.2.2.1) 15 u.2.2.2.2.1) 16 u.2.2.2.2.2.1) 6 u.2.2.2.2.2.2.2.2.2.2.2) (va_up (va_up (va_up (va_up (va_up mf 1 u.2.2.2.2.2.2.1) 2 u.2.2.2.2.2.2.2.1) 3 u.2.2.2.2.2.2.2.2.1) 4 u.2.2.2.2.2.2.2.2.2.1) 5 u.2.2.2.2.2.2.2.2.2.2.1) mg)) u)) A) ([.ref (mr 0), .ref (mr 7), .int z_houses] : List Value).toArray s 0 0 A) (F0 m 7 ls []) := by
    intro k
    induction k with
    | zero =>
      intro x_7 x_8 x_9 x_10 x_11 x_12 x_13 x_14 g_15 g_16 g_17 g_18 g_19 _ _ _ hinv hm
      obtain ⟨hi_19_0, hi_19_1, hi_19_2, hi_19_3, hi_19_4, hi_19_5, hi_19_6, hi_19_7⟩ := hinv
      exact absurd hm (by omega)
    | succ k ih_20 =>
      intro x_7 x_8 x_9 x_10 x_11 x_12 x_13 x_14 g_15 g_16 g_17 g_18 g_19 H locs ls hinv hm hw21 hl22
      obtain ⟨hi_19_0, hi_19_1, hi_19_2, hi_19_3, hi_19_4, hi_19_5, hi_19_6, hi_19_7⟩ := hinv
      refine lv_iload_n (pc := 7) E.1 E.2.1 dX3_read_7 rfl (lv_at hl22 0 rfl) ?_
      refine lv_sipush (pc := 8) (v := 400) E.1 E.2.1 dX3_read_8 (by decide +kernel) ?_
      refine lv_icmp_gt (pc := 11) (tgt := 57) E.1 E.2.1 dX3_read_11 (by decide) (fun c_23 => ?_) (fun c_23 => ?_)
      · skip
        have hc_23 := ltE (a := 400) (b := x_7.toInt) (by decide +kernel) rfl c_23
        exact em_v (w1 := (fun (u : Int32 × Int32 × Int32 × Int32 × Int32 × Int32 × (Nat → Int32) × (Nat → Int32) × (Nat → Int32) × (Nat → Int32) × (Nat → Int32) × Int32) => (WZ_NeedsT cI cJ ad mr (upd (upd (upd (upd (upd (upd (upd mi 11 u.1) 14 u.2.1) 12 u.2.2.1) 13 u.2.2.2.1) 15 u.2.2.2.2.1) 16 u.2.2.2.2.2.1) 6 u.2.2.2.2.2.2.2.2.2.2.2) (va_up (va_up (va_up (va_up (va_up mf 1 u.2.2.2.2.2.2.1) 2 u.2.2.2.2.2.2.2.1) 3 u.2.2.2.2.2.2.2.2.1) 4 u.2.2.2.2.2.2.2.2.2.1) 5 u.2.2.2.2.2.2.2.2.2.2.1) mg))) E hr hlk (x_8, x_9, x_10, x_11, x_12, x_13, g_15, g_16, g_17, g_18, g_19, x_14) hw21 ⟨hi_19_0, hi_19_1, hi_19_2, hi_19_3, hi_19_4, hi_19_5⟩ (Nat.le_of_ble_eq_true rfl) (Nat.le_of_ble_eq_true rfl) dX3_read_57
      · skip
        have hc_23 := nltE (a := 400) (b := x_7.toInt) (by decide +kernel) rfl c_23
        refine lv_aload_n (pc := 14) E.1 E.2.1 dX3_read_14 rfl (lv_at hl22 2 rfl) ?_
        refine ck_i (pc := 15) (ws' := (fun (u : Unit) => (WZ_NeedsT cI cJ ad mr (upd (upd (upd (upd (upd (upd (upd mi 6 x_14) 11 x_8) 12 x_10) 13 x_11) 14 x_9) 15 x_12) 16 x_13) (va_up (va_up (va_up (va_up (va_up mf 1 g_15) 2 g_16) 3 g_17) 4 g_18) 5 g_19) mg))) [false, false, false, false, false, false, true, true] hw21 rfl (fun hC_ => (rn_V (As := []) (rest := []) E hw21 (t_goesOn l D cI cJ _ (shf 7 mr) (shf 7 (upd (upd (upd (upd (upd (upd (upd mi 6 x_14) 11 x_8) 12 x_10) 13 x_11) 14 x_9) 15 x_12) 16 x_13)) (shf 7 (va_up (va_up (va_up (va_up (va_up mf 1 g_15) 2 g_16) 3 g_17) 4 g_18) 5 g_19)) (shf 7 mg) ad) (gdV q_927 q_853 q_854 q_160 q_855) hdV_X8_goesOn ⟨rfl, rfl⟩ ⟨(Nat.le_of_ble_eq_true rfl), (Nat.le_of_ble_eq_true rfl)⟩ ⟨(Nat.le_of_ble_eq_true rfl), (Nat.le_of_ble_eq_true rfl)⟩ xT_b xT_at 6 8 rfl rfl rfl _ hC_ (nd_T _ 0) rfl hl22.1 rfl (Nat.le_of_ble_eq_true rfl) dX3_read_15)) rfl (fun _ => rfl) (fun _ => rfl) (fun r_25 u_24 H1 locs hp hw26 => ?_)
        generalize H1 = H at hw26 ⊢
        have hw27 : WD D A s.heap (WZ_NeedsT cI cJ ad mr (upd (upd (upd (upd (upd (upd (upd mi 6 x_14) 11 x_8) 12 x_10) 13 x_11) 14 x_9) 15 x_12) 16 x_13) (va_up (va_up (va_up (va_up (va_up mf 1 g_15) 2 g_16) 3 g_17) 4 g_18) 5 g_19) mg) H locs := hw26
        have hp_28 := hp
        rcases hp_28 with ⟨rfl, ha_29, ha_30⟩ | ⟨rfl, ha_31⟩ | ⟨rfl, ha_32⟩
        · skip
          have ha_29 : x_12.toInt = 0 := ha_29
          have ha_30 : ¬ x_10.toInt = 0 := ha_30
          refine lv_if_eq (pc := 18) (tgt := 57) E.1 E.2.1 dX3_read_18 (by decide) (fun c_33 => absurd c_33 (mneE (a := 1) (b := 0) (by decide +kernel) (by decide +kernel) (by omega))) (fun _ => ?_)
          refine lv_aload_n (pc := 21) E.1 E.2.1 dX3_read_21 rfl (lv_at hl22 1 rfl) ?_
          refine x_get (pc := 22) (T := TX3) (N := 6) (ci := 3) (v := .int x_14) E hw27 inX3 0 5 q_361 rfl rfl (by decide) rfl rfl dX3_read_22 ?_
          refine lv_bipush (pc := 25) (v := 10) E.1 E.2.1 dX3_read_25 (by decide +kernel) ?_
          refine lv_icmp_lt (pc := 27) (tgt := 45) E.1 E.2.1 dX3_read_27 (by decide) (fun c_34 => ?_) (fun c_34 => ?_)
          · skip
            have hc_34 := ltE (a := x_14.toInt) (b := 10) rfl (by decide +kernel) c_34
            refine lv_aload_n (pc := 45) E.1 E.2.1 dX3_read_45 rfl (lv_at hl22 1 rfl) ?_
            refine lv_aload_n (pc := 46) E.1 E.2.1 dX3_read_46 rfl (lv_at hl22 2 rfl) ?_
            refine lv_iload_n (pc := 47) E.1 E.2.1 dX3_read_47 rfl (lv_at hl22 3 rfl) ?_
            refine ck_v (pc := 48) (ws' := (fun (u : Int32 × Int32 × Int32 × Int32 × Int32 × Int32 × (Nat → Int32) × (Nat → Int32) × (Nat → Int32) × (Nat → Int32) × (Nat → Int32) × Int32) => (WZ_NeedsT cI cJ ad mr (upd (upd (upd (upd (upd (upd (upd mi 6 u.2.2.2.2.2.2.2.2.2.2.2) 11 u.1) 12 u.2.2.1) 13 u.2.2.2.1) 14 u.2.1) 15 u.2.2.2.2.1) 16 u.2.2.2.2.2.1) (va_up (va_up (va_up (va_up (va_up mf 1 u.2.2.2.2.2.2.1) 2 u.2.2.2.2.2.2.2.1) 3 u.2.2.2.2.2.2.2.2.1) 4 u.2.2.2.2.2.2.2.2.2.1) 5 u.2.2.2.2.2.2.2.2.2.2.1) mg))) [true, true, true, true, true, true, true, true] hw27 rfl (fun hC_ => (rn_V (As := [.ref (mr 7), .int z_houses]) (rest := []) E hw27 (t_readNeed l D cI cJ _ mr (upd (upd (upd (upd (upd (upd (upd mi 6 x_14) 11 x_8) 12 x_10) 13 x_11) 14 x_9) 15 x_12) 16 x_13) (va_up (va_up (va_up (va_up (va_up mf 1 g_15) 2 g_16) 3 g_17) 4 g_18) 5 g_19) mg z_houses ad av tf h0 hi_19_0 hi_19_1 h3 ⟨hi_19_2, hi_19_3⟩ h5 ⟨hi_19_4, hi_19_5⟩) (gdV q_929 q_931 q_14 q_156 q_932) hdV_X3_readNeed ⟨rfl, rfl⟩ ⟨(Nat.le_of_ble_eq_true rfl), (Nat.le_of_ble_eq_true rfl)⟩ ⟨(Nat.le_of_ble_eq_true rfl), (Nat.le_of_ble_eq_true rfl)⟩ xT8_b (xT8_at hX hw27.2.2.1 (va_free hw27.2.1 hw27.2.2.1 hw27.2.2.2 _ hC_)) 0 3 rfl rfl rfl _ hC_ (nd_T _ 0) rfl hl22.1 rfl (Nat.le_of_ble_eq_true rfl) dX3_read_48)) rfl (fun _ => rfl) (fun _ => rfl) (fun u_35 H1 locs hp hw37 => ?_)
            obtain ⟨ntat_38, ntplace_39, ntkind_40, ntvalue_41, ntfault_42, ntfaultPlace_43, gkind_44, gat_45, gfrom_46, gto_47, gworth_48, ncount_49⟩ := u_35
            generalize H1 = H at hw37 ⊢
            have hw50 : WD D A s.heap (WZ_NeedsT cI cJ ad mr (upd (upd (upd (upd (upd (upd (upd mi 6 ncount_49) 11 ntat_38) 12 ntkind_40) 13 ntvalue_41) 14 ntplace_39) 15 ntfault_42) 16 ntfaultPlace_43) (va_up (va_up (va_up (va_up (va_up mf 1 gkind_44) 2 gat_45) 3 gfrom_46) 4 gto_47) 5 gworth_48) mg) H locs := hw37
            obtain ⟨hp_51, hp_52, hp_53, hp_54, hp_55, hp_56⟩ := hp
            have hp_51 : 0 ≤ ntat_38.toInt := hp_51
            have hp_52 : ntat_38.toInt ≤ (mi 9).toInt := hp_52
            have hp_53 : 0 ≤ ntfault_42.toInt := hp_53
            have hp_54 : ntfault_42.toInt ≤ 4 := hp_54
            have hp_55 : 0 ≤ ncount_49.toInt := hp_55
            have hp_56 : ncount_49.toInt ≤ 10 := hp_56
            obtain ⟨v_57, ev_57⟩ : ∃ z : Int32, x_7 + Int32.ofInt (1) = z := ⟨_, rfl⟩
            have hv_57 : v_57.toInt = x_7.toInt + (1) := by rw [← ev_57]; exact incE rfl (by decide) (by omega)
            refine lv_iinc (pc := 51) (v := v_57) (lv' := [(3, .int v_57), (0, .ref (mr 0)), (1, .ref (mr 7)), (2, .int z_houses)]) E.1 E.2.1 dX3_read_51 hl22 (k := 0) rfl ev_57 (by decide) rfl (fun ls hl58 => ?_)
            refine lv_goto (pc := 54) (tgt := 7) E.1 E.2.1 dX3_read_54 (by decide) ?_
            exact ih_20 v_57 ntat_38 ntplace_39 ntkind_40 ntvalue_41 ntfault_42 ntfaultPlace_43 ncount_49 gkind_44 gat_45 gfrom_46 gto_47 gworth_48 _ _ _ ⟨hp_51, hp_52, hp_53, hp_54, hp_55, hp_56, (by show 0 ≤ v_57.toInt; omega), (by show v_57.toInt ≤ 401; omega)⟩ (by omega) hw50 (lv_sub hl58 [0, 1, 2, 3] rfl)
          · skip
            have hc_34 := nltE (a := x_14.toInt) (b := 10) rfl (by decide +kernel) c_34
            refine lv_aload_n (pc := 30) E.1 E.2.1 dX3_read_30 rfl (lv_at hl22 2 rfl) ?_
            refine x_get (pc := 31) (T := TX8) (N := 9) (ci := 8) (v := .int x_10) E hw27 inX8 6 4 q_544 rfl rfl (by decide) rfl rfl dX3_read_31 ?_
            refine lv_sipush (pc := 34) (v := 256) E.1 E.2.1 dX3_read_34 (by decide +kernel) ?_
            refine lv_icmp_ne (pc := 37) (tgt := 45) E.1 E.2.1 dX3_read_37 (by decide) (fun c_59 => ?_) (fun c_59 => ?_)
            · skip
              have hc_59 := neE (a := x_10.toInt) (b := 256) rfl (by decide +kernel) c_59
              refine lv_aload_n (pc := 45) E.1 E.2.1 dX3_read_45 rfl (lv_at hl22 1 rfl) ?_
              refine lv_aload_n (pc := 46) E.1 E.2.1 dX3_read_46 rfl (lv_at hl22 2 rfl) ?_
              refine lv_iload_n (pc := 47) E.1 E.2.1 dX3_read_47 rfl (lv_at hl22 3 rfl) ?_
              refine ck_v (pc := 48) (ws' := (fun (u : Int32 × Int32 × Int32 × Int32 × Int32 × Int32 × (Nat → Int32) × (Nat → Int32) × (Nat → Int32) × (Nat → Int32) × (Nat → Int32) × Int32) => (WZ_NeedsT cI cJ ad mr (upd (upd (upd (upd (upd (upd (upd mi 6 u.2.2.2.2.2.2.2.2.2.2.2) 11 u.1) 12 u.2.2.1) 13 u.2.2.2.1) 14 u.2.1) 15 u.2.2.2.2.1) 16 u.2.2.2.2.2.1) (va_up (va_up (va_up (va_up (va_up mf 1 u.2.2.2.2.2.2.1) 2 u.2.2.2.2.2.2.2.1) 3 u.2.2.2.2.2.2.2.2.1) 4 u.2.2.2.2.2.2.2.2.2.1) 5 u.2.2.2.2.2.2.2.2.2.2.1) mg))) [true, true, true, true, true, true, true, true] hw27 rfl (fun hC_ => (rn_V (As := [.ref (mr 7), .int z_houses]) (rest := []) E hw27 (t_readNeed l D cI cJ _ mr (upd (upd (upd (upd (upd (upd (upd mi 6 x_14) 11 x_8) 12 x_10) 13 x_11) 14 x_9) 15 x_12) 16 x_13) (va_up (va_up (va_up (va_up (va_up mf 1 g_15) 2 g_16) 3 g_17) 4 g_18) 5 g_19) mg z_houses ad av tf h0 hi_19_0 hi_19_1 h3 ⟨hi_19_2, hi_19_3⟩ h5 ⟨hi_19_4, hi_19_5⟩) (gdV q_929 q_931 q_14 q_156 q_932) hdV_X3_readNeed ⟨rfl, rfl⟩ ⟨(Nat.le_of_ble_eq_true rfl), (Nat.le_of_ble_eq_true rfl)⟩ ⟨(Nat.le_of_ble_eq_true rfl), (Nat.le_of_ble_eq_true rfl)⟩ xT8_b (xT8_at hX hw27.2.2.1 (va_free hw27.2.1 hw27.2.2.1 hw27.2.2.2 _ hC_)) 0 3 rfl rfl rfl _ hC_ (nd_T _ 0) rfl hl22.1 rfl (Nat.le_of_ble_eq_true rfl) dX3_read_48)) rfl (fun _ => rfl) (fun _ => rfl) (fun u_60 H1 locs hp hw62 => ?_)
              obtain ⟨ntat_63, ntplace_64, ntkind_65, ntvalue_66, ntfault_67, ntfaultPlace_68, gkind_69, gat_70, gfrom_71, gto_72, gworth_73, ncount_74⟩ := u_60
              generalize H1 = H at hw62 ⊢
              have hw75 : WD D A s.heap (WZ_NeedsT cI cJ ad mr (upd (upd (upd (upd (upd (upd (upd mi 6 ncount_74) 11 ntat_63) 12 ntkind_65) 13 ntvalue_66) 14 ntplace_64) 15 ntfault_67) 16 ntfaultPlace_68) (va_up (va_up (va_up (va_up (va_up mf 1 gkind_69) 2 gat_70) 3 gfrom_71) 4 gto_72) 5 gworth_73) mg) H locs := hw62
              obtain ⟨hp_76, hp_77, hp_78, hp_79, hp_80, hp_81⟩ := hp
              have hp_76 : 0 ≤ ntat_63.toInt := hp_76
              have hp_77 : ntat_63.toInt ≤ (mi 9).toInt := hp_77
              have hp_78 : 0 ≤ ntfault_67.toInt := hp_78
              have hp_79 : ntfault_67.toInt ≤ 4 := hp_79
              have hp_80 : 0 ≤ ncount_74.toInt := hp_80
              have hp_81 : ncount_74.toInt ≤ 10 := hp_81
              obtain ⟨v_82, ev_82⟩ : ∃ z : Int32, x_7 + Int32.ofInt (1) = z := ⟨_, rfl⟩
              have hv_82 : v_82.toInt = x_7.toInt + (1) := by rw [← ev_82]; exact incE rfl (by decide) (by omega)
              refine lv_iinc (pc := 51) (v := v_82) (lv' := [(3, .int v_82), (0, .ref (mr 0)), (1, .ref (mr 7)), (2, .int z_houses)]) E.1 E.2.1 dX3_read_51 hl22 (k := 0) rfl ev_82 (by decide) rfl (fun ls hl83 => ?_)
              refine lv_goto (pc := 54) (tgt := 7) E.1 E.2.1 dX3_read_54 (by decide) ?_
              exact ih_20 v_82 ntat_63 ntplace_64 ntkind_65 ntvalue_66 ntfault_67 ntfaultPlace_68 ncount_74 gkind_69 gat_70 gfrom_71 gto_72 gworth_73 _ _ _ ⟨hp_76, hp_77, hp_78, hp_79, hp_80, hp_81, (by show 0 ≤ v_82.toInt; omega), (by show v_82.toInt ≤ 401; omega)⟩ (by omega) hw75 (lv_sub hl83 [0, 1, 2, 3] rfl)
            · skip
              have hc_59 := eqE (a := x_10.toInt) (b := 256) rfl (by decide +kernel) c_59
              refine lv_aload_n (pc := 40) E.1 E.2.1 dX3_read_40 rfl (lv_at hl22 2 rfl) ?_
              refine lv_iconst (pc := 41) (v := 3) E.1 E.2.1 dX3_read_41 (by decide +kernel) ?_
              refine ck_v (pc := 42) (ws' := (fun (u : Int32 × Int32) => (WZ_NeedsT cI cJ ad mr (upd (upd (upd (upd (upd (upd (upd mi 6 x_14) 11 x_8) 12 x_10) 13 x_11) 14 x_9) 15 u.1) 16 u.2) (va_up (va_up (va_up (va_up (va_up mf 1 g_15) 2 g_16) 3 g_17) 4 g_18) 5 g_19) mg))) [false, false, false, false, false, false, true, true] hw27 rfl (fun hC_ => (rn_V (As := [.int 3]) (rest := []) E hw27 (t_refuse l D cI cJ _ (shf 7 mr) (shf 7 (upd (upd (upd (upd (upd (upd (upd mi 6 x_14) 11 x_8) 12 x_10) 13 x_11) 14 x_9) 15 x_12) 16 x_13)) (shf 7 (va_up (va_up (va_up (va_up (va_up mf 1 g_15) 2 g_16) 3 g_17) 4 g_18) 5 g_19)) (shf 7 mg) 3 ad (by show 1 ≤ (3 : Int32).toInt ∧ (3 : Int32).toInt ≤ 4; have k_0 : (3 : Int32).toInt = 3 := (by decide +kernel); omega) ⟨hi_19_2, hi_19_3⟩) (gdV q_928 q_857 q_858 q_160 q_859) hdV_X8_refuse ⟨rfl, rfl⟩ ⟨(Nat.le_of_ble_eq_true rfl), (Nat.le_of_ble_eq_true rfl)⟩ ⟨(Nat.le_of_ble_eq_true rfl), (Nat.le_of_ble_eq_true rfl)⟩ xT_b xT_at 6 8 rfl rfl rfl _ hC_ (nd_T _ 0) rfl hl22.1 rfl (Nat.le_of_ble_eq_true rfl) dX3_read_42)) rfl (fun _ => rfl) (fun _ => rfl) (fun u_84 H1 locs hp hw86 => ?_)
              obtain ⟨nfault_87, nfaultPlace_88⟩ := u_84
              generalize H1 = H at hw86 ⊢
              have hw89 : WD D A s.heap (WZ_NeedsT cI cJ ad mr (upd (upd (upd (upd (upd (upd (upd mi 6 x_14) 11 x_8) 12 x_10) 13 x_11) 14 x_9) 15 nfault_87) 16 nfaultPlace_88) (va_up (va_up (va_up (va_up (va_up mf 1 g_15) 2 g_16) 3 g_17) 4 g_18) 5 g_19) mg) H locs := hw86
              obtain ⟨hp_90, hp_91⟩ := hp
              have hp_90 : 1 ≤ nfault_87.toInt := hp_90
              have hp_91 : nfault_87.toInt ≤ 4 := hp_91
              refine lv_aload_n (pc := 45) E.1 E.2.1 dX3_read_45 rfl (lv_at hl22 1 rfl) ?_
              refine lv_aload_n (pc := 46) E.1 E.2.1 dX3_read_46 rfl (lv_at hl22 2 rfl) ?_
              refine lv_iload_n (pc := 47) E.1 E.2.1 dX3_read_47 rfl (lv_at hl22 3 rfl) ?_
              refine ck_v (pc := 48) (ws' := (fun (u : Int32 × Int32 × Int32 × Int32 × Int32 × Int32 × (Nat → Int32) × (Nat → Int32) × (Nat → Int32) × (Nat → Int32) × (Nat → Int32) × Int32) => (WZ_NeedsT cI cJ ad mr (upd (upd (upd (upd (upd (upd (upd mi 6 u.2.2.2.2.2.2.2.2.2.2.2) 11 u.1) 12 u.2.2.1) 13 u.2.2.2.1) 14 u.2.1) 15 u.2.2.2.2.1) 16 u.2.2.2.2.2.1) (va_up (va_up (va_up (va_up (va_up mf 1 u.2.2.2.2.2.2.1) 2 u.2.2.2.2.2.2.2.1) 3 u.2.2.2.2.2.2.2.2.1) 4 u.2.2.2.2.2.2.2.2.2.1) 5 u.2.2.2.2.2.2.2.2.2.2.1) mg))) [true, true, true, true, true, true, true, true] hw89 rfl (fun hC_ => (rn_V (As := [.ref (mr 7), .int z_houses]) (rest := []) E hw89 (t_readNeed l D cI cJ _ mr (upd (upd (upd (upd (upd (upd (upd mi 6 x_14) 11 x_8) 12 x_10) 13 x_11) 14 x_9) 15 nfault_87) 16 nfaultPlace_88) (va_up (va_up (va_up (va_up (va_up mf 1 g_15) 2 g_16) 3 g_17) 4 g_18) 5 g_19) mg z_houses ad av tf h0 hi_19_0 hi_19_1 h3 (by show 0 ≤ nfault_87.toInt ∧ nfault_87.toInt ≤ 4; omega) h5 ⟨hi_19_4, hi_19_5⟩) (gdV q_929 q_931 q_14 q_156 q_932) hdV_X3_readNeed ⟨rfl, rfl⟩ ⟨(Nat.le_of_ble_eq_true rfl), (Nat.le_of_ble_eq_true rfl)⟩ ⟨(Nat.le_of_ble_eq_true rfl), (Nat.le_of_ble_eq_true rfl)⟩ xT8_b (xT8_at hX hw89.2.2.1 (va_free hw89.2.1 hw89.2.2.1 hw89.2.2.2 _ hC_)) 0 3 rfl rfl rfl _ hC_ (nd_T _ 0) rfl hl22.1 rfl (Nat.le_of_ble_eq_true rfl) dX3_read_48)) rfl (fun _ => rfl) (fun _ => rfl) (fun u_92 H1 locs hp hw94 => ?_)
              obtain ⟨ntat_95, ntplace_96, ntkind_97, ntvalue_98, ntfault_99, ntfaultPlace_100, gkind_101, gat_102, gfrom_103, gto_104, gworth_105, ncount_106⟩ := u_92
              generalize H1 = H at hw94 ⊢
              have hw107 : WD D A s.heap (WZ_NeedsT cI cJ ad mr (upd (upd (upd (upd (upd (upd (upd mi 6 ncount_106) 11 ntat_95) 12 ntkind_97) 13 ntvalue_98) 14 ntplace_96) 15 ntfault_99) 16 ntfaultPlace_100) (va_up (va_up (va_up (va_up (va_up mf 1 gkind_101) 2 gat_102) 3 gfrom_103) 4 gto_104) 5 gworth_105) mg) H locs := hw94
              obtain ⟨hp_108, hp_109, hp_110, hp_111, hp_112, hp_113⟩ := hp
              have hp_108 : 0 ≤ ntat_95.toInt := hp_108
              have hp_109 : ntat_95.toInt ≤ (mi 9).toInt := hp_109
              have hp_110 : 0 ≤ ntfault_99.toInt := hp_110
              have hp_111 : ntfault_99.toInt ≤ 4 := hp_111
              have hp_112 : 0 ≤ ncount_106.toInt := hp_112
              have hp_113 : ncount_106.toInt ≤ 10 := hp_113
              obtain ⟨v_114, ev_114⟩ : ∃ z : Int32, x_7 + Int32.ofInt (1) = z := ⟨_, rfl⟩
              have hv_114 : v_114.toInt = x_7.toInt + (1) := by rw [← ev_114]; exact incE rfl (by decide) (by omega)
              refine lv_iinc (pc := 51) (v := v_114) (lv' := [(3, .int v_114), (0, .ref (mr 0)), (1, .ref (mr 7)), (2, .int z_houses)]) E.1 E.2.1 dX3_read_51 hl22 (k := 0) rfl ev_114 (by decide) rfl (fun ls hl115 => ?_)
              refine lv_goto (pc := 54) (tgt := 7) E.1 E.2.1 dX3_read_54 (by decide) ?_
              exact ih_20 v_114 ntat_95 ntplace_96 ntkind_97 ntvalue_98 ntfault_99 ntfaultPlace_100 ncount_106 gkind_101 gat_102 gfrom_103 gto_104 gworth_105 _ _ _ ⟨hp_108, hp_109, hp_110, hp_111, hp_112, hp_113, (by show 0 ≤ v_114.toInt; omega), (by show v_114.toInt ≤ 401; omega)⟩ (by omega) hw107 (lv_sub hl115 [0, 1, 2, 3] rfl)
        · skip
          have ha_31 : ¬ x_12.toInt = 0 := ha_31
          refine lv_if_eq (pc := 18) (tgt := 57) E.1 E.2.1 dX3_read_18 (by decide) (fun _ => ?_) (fun c_116 => absurd (meqE (a := 0) (b := 0) (by decide +kernel) (by decide +kernel) (by omega)) c_116)
          exact em_v (w1 := (fun (u : Int32 × Int32 × Int32 × Int32 × Int32 × Int32 × (Nat → Int32) × (Nat → Int32) × (Nat → Int32) × (Nat → Int32) × (Nat → Int32) × Int32) => (WZ_NeedsT cI cJ ad mr (upd (upd (upd (upd (upd (upd (upd mi 11 u.1) 14 u.2.1) 12 u.2.2.1) 13 u.2.2.2.1) 15 u.2.2.2.2.1) 16 u.2.2.2.2.2.1) 6 u.2.2.2.2.2.2.2.2.2.2.2) (va_up (va_up (va_up (va_up (va_up mf 1 u.2.2.2.2.2.2.1) 2 u.2.2.2.2.2.2.2.1) 3 u.2.2.2.2.2.2.2.2.1) 4 u.2.2.2.2.2.2.2.2.2.1) 5 u.2.2.2.2.2.2.2.2.2.2.1) mg))) E hr hlk (x_8, x_9, x_10, x_11, x_12, x_13, g_15, g_16, g_17, g_18, g_19, x_14) hw27 ⟨hi_19_0, hi_19_1, hi_19_2, hi_19_3, hi_19_4, hi_19_5⟩ (Nat.le_of_ble_eq_true rfl) (Nat.le_of_ble_eq_true rfl) dX3_read_57
        · skip
          have ha_32 : x_10.toInt = 0 := ha_32
          refine lv_if_eq (pc := 18) (tgt := 57) E.1 E.2.1 dX3_read_18 (by decide) (fun _ => ?_) (fun c_117 => absurd (meqE (a := 0) (b := 0) (by decide +kernel) (by decide +kernel) (by omega)) c_117)
          exact em_v (w1 := (fun (u : Int32 × Int32 × Int32 × Int32 × Int32 × Int32 × (Nat → Int32) × (Nat → Int32) × (Nat → Int32) × (Nat → Int32) × (Nat → Int32) × Int32) => (WZ_NeedsT cI cJ ad mr (upd (upd (upd (upd (upd (upd (upd mi 11 u.1) 14 u.2.1) 12 u.2.2.1) 13 u.2.2.2.1) 15 u.2.2.2.2.1) 16 u.2.2.2.2.2.1) 6 u.2.2.2.2.2.2.2.2.2.2.2) (va_up (va_up (va_up (va_up (va_up mf 1 u.2.2.2.2.2.2.1) 2 u.2.2.2.2.2.2.2.1) 3 u.2.2.2.2.2.2.2.2.1) 4 u.2.2.2.2.2.2.2.2.2.1) 5 u.2.2.2.2.2.2.2.2.2.2.1) mg))) E hr hlk (x_8, x_9, x_10, x_11, x_12, x_13, g_15, g_16, g_17, g_18, g_19, x_14) hw27 ⟨hi_19_0, hi_19_1, hi_19_2, hi_19_3, hi_19_4, hi_19_5⟩ (Nat.le_of_ble_eq_true rfl) (Nat.le_of_ble_eq_true rfl) dX3_read_57
  exact loop_6 (Int.toNat (401 - 0) + 1) 0 (mi 11) (mi 14) (mi 12) (mi 13) (mi 15) (mi 16) 0 (mf 1) (mf 2) (mf 3) (mf 4) (mf 5) _ _ _ ⟨h1, h2, h4.1, h4.2, (by show 0 ≤ (0 : Int32).toInt; have k_0 : (0 : Int32).toInt = 0 := (by decide +kernel); omega), (by show (0 : Int32).toInt ≤ 10; have k_0 : (0 : Int32).toInt = 0 := (by decide +kernel); omega), (by show 0 ≤ (0 : Int32).toInt; have k_0 : (0 : Int32).toInt = 0 := (by decide +kernel); omega), (by show (0 : Int32).toInt ≤ 401; have k_0 : (0 : Int32).toInt = 0 := (by decide +kernel); omega)⟩ (by have k_0 : (0 : Int32).toInt = 0 := (by decide +kernel); have k_7 : (0 : Int32).toInt = 0 := (by decide +kernel); omega) hw4 (lv_sub hl5 [0, 1, 2, 3] rfl)
set_option maxHeartbeats 4000000 in
set_option maxRecDepth 100000 in
theorem t_readAgain (l : Launch) (D : va_G) (cI cJ : ClassId) (sz : Nat) (mr : Nat → Nat) (mi : Nat → Int32) (mf : Nat → Nat → Int32) (mg : Nat → Nat → Int64)  (ad av : Nat → Nat) (tf : Value) (h0 : 0 ≤ (mi 8).toInt ∧ (mi 8).toInt ≤ 400) (h1 : 0 ≤ (mi 10).toInt) (h2 : (mi 10).toInt ≤ (mi 8).toInt) (h3 : 0 ≤ (mi 9).toInt ∧ (mi 9).toInt ≤ 6) (h4 : 0 ≤ (mi 14).toInt ∧ (mi 14).toInt ≤ 4) (h5 : 0 ≤ (mi 5).toInt ∧ (mi 5).toInt ≤ 4) (h6 : 0 ≤ (mi 2).toInt) (h7 : (mi 2).toInt ≤ 157857660) (x_ri : RI (mf 3) (mf 4) ((mi 5).toInt).toNat (mi 2).toInt (157857660)) : Met l yX7_readAgain (Cond.code yX7_readAgain cX7_readAgain 3 none :: GW) ({ frames := 8, cells := 0, slots := 0, locals := 194 } : Room) (va_Pc [.ref (mr 0), .ref (mr 6)] (PW D cI cJ sz (WZ_RoundT cI cJ ad mr mi mf mg) (xT8 ad av tf (va_A (WZ_RoundT cI cJ ad mr mi mf mg) sz)))) (va_Qv (fun (u : Int32 × Int32 × Int32 × Int32 × Int32 × Int32 × (Nat → Int32) × (Nat → Int32) × Int32) => (0 ≤ u.1.toInt) ∧ (u.1.toInt ≤ (mi 8).toInt) ∧ (0 ≤ u.2.2.2.2.1.toInt) ∧ (u.2.2.2.2.1.toInt ≤ 4) ∧ (0 ≤ u.2.2.2.2.2.2.2.2.toInt) ∧ (u.2.2.2.2.2.2.2.2.toInt ≤ 4) ∧ (RI u.2.2.2.2.2.2.1 u.2.2.2.2.2.2.2.1 (u.2.2.2.2.2.2.2.2.toInt).toNat (mi 2).toInt (FX (mf 3) (mf 4) ((mi 5).toInt).toNat ((mi 2).toInt)))) (fun u => QW D cI cJ (va_A (WZ_RoundT cI cJ ad mr mi mf mg) sz) ((fun (u : Int32 × Int32 × Int32 × Int32 × Int32 × Int32 × (Nat → Int32) × (Nat → Int32) × Int32) => (WZ_RoundT cI cJ ad mr (upd (upd (upd (upd (upd (upd (upd mi 10 u.1) 13 u.2.1) 11 u.2.2.1) 12 u.2.2.2.1) 14 u.2.2.2.2.1) 15 u.2.2.2.2.2.1) 5 u.2.2.2.2.2.2.2.2) (va_up (va_up mf 3 u.2.2.2.2.2.2.1) 4 u.2.2.2.2.2.2.2.1) mg)) u)) (va_A (WZ_RoundT cI cJ ad mr mi mf mg) sz)) 0 0 (va_A (WZ_RoundT cI cJ ad mr mi mf mg) sz) := by
  refine mk_metA (X := fun A => xT8 ad av tf A) (y := yX7_readAgain) (bytes := cX7_readAgain) (maxL := 3) (avs := [.ref (mr 0), .ref (mr 6)]) (WS := (WZ_RoundT cI cJ ad mr mi mf mg)) (Qf := fun A => va_Qv (fun (u : Int32 × Int32 × Int32 × Int32 × Int32 × Int32 × (Nat → Int32) × (Nat → Int32) × Int32) => (0 ≤ u.1.toInt) ∧ (u.1.toInt ≤ (mi 8).toInt) ∧ (0 ≤ u.2.2.2.2.1.toInt) ∧ (u.2.2.2.2.1.toInt ≤ 4) ∧ (0 ≤ u.2.2.2.2.2.2.2.2.toInt) ∧ (u.2.2.2.2.2.2.2.2.toInt ≤ 4) ∧ (RI u.2.2.2.2.2.2.1 u.2.2.2.2.2.2.2.1 (u.2.2.2.2.2.2.2.2.toInt).toNat (mi 2).toInt (FX (mf 3) (mf 4) ((mi 5).toInt).toNat ((mi 2).toInt)))) (fun u => QW D cI cJ A ((fun (u : Int32 × Int32 × Int32 × Int32 × Int32 × Int32 × (Nat → Int32) × (Nat → Int32) × Int32) => (WZ_RoundT cI cJ ad mr (upd (upd (upd (upd (upd (upd (upd mi 10 u.1) 13 u.2.1) 11 u.2.2.1) 12 u.2.2.2.1) 14 u.2.2.2.2.1) 15 u.2.2.2.2.2.1) 5 u.2.2.2.2.2.2.2.2) (va_up (va_up mf 3 u.2.2.2.2.2.2.1) 4 u.2.2.2.2.2.2.2.1) mg)) u)) A) (by decide) (Nat.le_of_ble_eq_true rfl) ?_
  intro p e s m below meth c A ls E hr hlk hnm hX hw1 hl2
  have hl3 : lv_has ls 3 [(0, .ref (mr 0)), (1, .ref (mr 6))] := hl2
  refine lv_aload_n (pc := 0) E.1 E.2.1 dX7_readAgain_0 rfl (lv_at hl3 0 rfl) ?_
  refine x_get (pc := 1) (T := TX7) (N := 5) (ci := 7) (v := .int (mi 5)) E hw1 inX7 0 4 q_426 rfl rfl (by decide) rfl rfl dX7_readAgain_1 ?_
  refine lv_iconst (pc := 4) (v := 4) E.1 E.2.1 dX7_readAgain_4 (by decide +kernel) ?_
  refine lv_icmp_lt (pc := 5) (tgt := 13) E.1 E.2.1 dX7_readAgain_5 (by decide) (fun c_4 => ?_) (fun c_4 => ?_)
  · skip
    have hc_4 := ltE (a := (mi 5).toInt) (b := 4) rfl (by decide +kernel) c_4
    refine lv_aload_n (pc := 13) E.1 E.2.1 dX7_readAgain_13 rfl (lv_at hl3 1 rfl) ?_
    refine ck_v (pc := 14) (ws' := (fun (u : Int32 × Int32 × Int32 × Int32) => (WZ_RoundT cI cJ ad mr (upd (upd (upd (upd mi 10 u.1) 11 u.2.2.1) 12 u.2.2.2) 13 u.2.1) mf mg))) [false, false, false, false, true, true] hw1 rfl (fun hC_ => (rn_V (As := []) (rest := []) E hw1 (t_step l D cI cJ _ (shf 6 mr) (shf 6 mi) (shf 6 mf) (shf 6 mg) ad av tf h0 h1 h2 h3) (gdV q_941 q_723 q_724 q_160 q_725) hdV_X8_step ⟨rfl, rfl⟩ ⟨(Nat.le_of_ble_eq_true rfl), (Nat.le_of_ble_eq_true rfl)⟩ ⟨(Nat.le_of_ble_eq_true rfl), (Nat.le_of_ble_eq_true rfl)⟩ xT8_b (xT8_at hX hw1.2.2.1 (va_free hw1.2.1 hw1.2.2.1 hw1.2.2.2 _ hC_)) 4 8 rfl rfl rfl _ hC_ (nd_T _ 0) rfl hl3.1 rfl (Nat.le_of_ble_eq_true rfl) dX7_readAgain_14)) rfl (fun _ => rfl) (fun _ => rfl) (fun u_5 H1 locs hp hw7 => ?_)
    obtain ⟨nat_8, nplace_9, nkind_10, nvalue_11⟩ := u_5
    generalize H1 = H at hw7 ⊢
    have hw12 : WD D A s.heap (WZ_RoundT cI cJ ad mr (upd (upd (upd (upd mi 10 nat_8) 11 nkind_10) 12 nvalue_11) 13 nplace_9) mf mg) H locs := hw7
    obtain ⟨hp_13, hp_14⟩ := hp
    have hp_13 : 0 ≤ nat_8.toInt := hp_13
    have hp_14 : nat_8.toInt ≤ (mi 8).toInt := hp_14
    refine lv_aload_n (pc := 17) E.1 E.2.1 dX7_readAgain_17 rfl (lv_at hl3 1 rfl) ?_
    refine lv_iconst (pc := 18) (v := 1) E.1 E.2.1 dX7_readAgain_18 (by decide +kernel) ?_
    refine lv_bipush (pc := 19) (v := 9) E.1 E.2.1 dX7_readAgain_19 (by decide +kernel) ?_
    refine ck_i (pc := 21) (ws' := (fun (u : Int32 × Int32 × Int32 × Int32 × Int32 × Int32) => (WZ_RoundT cI cJ ad mr (upd (upd (upd (upd (upd (upd mi 10 u.1) 11 u.2.2.1) 12 u.2.2.2.1) 13 u.2.1) 14 u.2.2.2.2.1) 15 u.2.2.2.2.2) mf mg))) [false, false, false, false, true, true] hw12 rfl (fun hC_ => (rn_V (As := [.int 1, .int 9]) (rest := []) E hw12 (t_numberA l D cI cJ _ (shf 6 mr) (shf 6 (upd (upd (upd (upd mi 10 nat_8) 11 nkind_10) 12 nvalue_11) 13 nplace_9)) (shf 6 mf) (shf 6 mg) 1 9 ad av tf h0 hp_13 hp_14 h3 h4 (by show (1 : Int32).toInt ≤ (9 : Int32).toInt; have k_0 : (1 : Int32).toInt = 1 := (by decide +kernel); have k_1 : (9 : Int32).toInt = 9 := (by decide +kernel); omega)) (gdV q_942 q_879 q_880 q_160 q_881) hdV_X8_number ⟨rfl, rfl⟩ ⟨(Nat.le_of_ble_eq_true rfl), (Nat.le_of_ble_eq_true rfl)⟩ ⟨(Nat.le_of_ble_eq_true rfl), (Nat.le_of_ble_eq_true rfl)⟩ xT8_b (xT8_at hX hw12.2.2.1 (va_free hw12.2.1 hw12.2.2.1 hw12.2.2.2 _ hC_)) 4 8 rfl rfl rfl _ hC_ (nd_T _ 0) rfl hl3.1 rfl (Nat.le_of_ble_eq_true rfl) dX7_readAgain_21)) rfl (fun _ => rfl) (fun _ => rfl) (fun r_16 u_15 H1 locs hp hw17 => ?_)
    obtain ⟨nat_18, nplace_19, nkind_20, nvalue_21, nfault_22, nfaultPlace_23⟩ := u_15
    generalize H1 = H at hw17 ⊢
    have hw24 : WD D A s.heap (WZ_RoundT cI cJ ad mr (upd (upd (upd (upd (upd (upd mi 10 nat_18) 11 nkind_20) 12 nvalue_21) 13 nplace_19) 14 nfault_22) 15 nfaultPlace_23) mf mg) H locs := hw17
    obtain ⟨hp_25, hp_26, hp_27, hp_28, hp_29, hp_30⟩ := hp
    have hp_25 : 0 ≤ nat_18.toInt := hp_25
    have hp_26 : nat_18.toInt ≤ (mi 8).toInt := hp_26
    have hp_27 : 0 ≤ nfault_22.toInt := hp_27
    have hp_28 : nfault_22.toInt ≤ 4 := hp_28
    have hp_29 : (1 : Int32).toInt ≤ r_16.toInt := hp_29
    rw [show (1 : Int32).toInt = 1 from by decide +kernel] at hp_29
    have hp_30 : r_16.toInt ≤ (9 : Int32).toInt := hp_30
    rw [show (9 : Int32).toInt = 9 from by decide +kernel] at hp_30
    refine lv_istore_n (pc := 24) (lv' := [(2, .int r_16), (0, .ref (mr 0)), (1, .ref (mr 6))]) E.1 E.2.1 dX7_readAgain_24 rfl hl3 (by decide) rfl (fun ls hl31 => ?_)
    refine lv_aload_n (pc := 25) E.1 E.2.1 dX7_readAgain_25 rfl (lv_at hl31 2 rfl) ?_
    refine lv_bipush (pc := 26) (v := 40) E.1 E.2.1 dX7_readAgain_26 (by decide +kernel) ?_
    refine ck_v (pc := 28) (ws' := (fun (u : Int32 × Int32 × Int32 × Int32 × Int32 × Int32) => (WZ_RoundT cI cJ ad mr (upd (upd (upd (upd (upd (upd mi 10 u.1) 11 u.2.2.1) 12 u.2.2.2.1) 13 u.2.1) 14 u.2.2.2.2.1) 15 u.2.2.2.2.2) mf mg))) [false, false, false, false, true, true] hw24 rfl (fun hC_ => (rn_V (As := [.int 40]) (rest := []) E hw24 (t_pass l D cI cJ _ (shf 6 mr) (shf 6 (upd (upd (upd (upd (upd (upd mi 10 nat_18) 11 nkind_20) 12 nvalue_21) 13 nplace_19) 14 nfault_22) 15 nfaultPlace_23)) (shf 6 mf) (shf 6 mg) 40 ad av tf h0 hp_25 hp_26 h3 ⟨hp_27, hp_28⟩) (gdV q_943 q_861 q_862 q_160 q_863) hdV_X8_pass ⟨rfl, rfl⟩ ⟨(Nat.le_of_ble_eq_true rfl), (Nat.le_of_ble_eq_true rfl)⟩ ⟨(Nat.le_of_ble_eq_true rfl), (Nat.le_of_ble_eq_true rfl)⟩ xT8_b (xT8_at hX hw24.2.2.1 (va_free hw24.2.1 hw24.2.2.1 hw24.2.2.2 _ hC_)) 4 8 rfl rfl rfl _ hC_ (nd_T _ 0) rfl hl31.1 rfl (Nat.le_of_ble_eq_true rfl) dX7_readAgain_28)) rfl (fun _ => rfl) (fun _ => rfl) (fun u_32 H1 locs hp hw34 => ?_)
    obtain ⟨nat_35, nplace_36, nkind_37, nvalue_38, nfault_39, nfaultPlace_40⟩ := u_32
    generalize H1 = H at hw34 ⊢
    have hw41 : WD D A s.heap (WZ_RoundT cI cJ ad mr (upd (upd (upd (upd (upd (upd mi 10 nat_35) 11 nkind_37) 12 nvalue_38) 13 nplace_36) 14 nfault_39) 15 nfaultPlace_40) mf mg) H locs := hw34
    obtain ⟨hp_42, hp_43, hp_44, hp_45⟩ := hp
    have hp_42 : 0 ≤ nat_35.toInt := hp_42
    have hp_43 : nat_35.toInt ≤ (mi 8).toInt := hp_43
    have hp_44 : 0 ≤ nfault_39.toInt := hp_44
    have hp_45 : nfault_39.toInt ≤ 4 := hp_45
    refine lv_aload_n (pc := 31) E.1 E.2.1 dX7_readAgain_31 rfl (lv_at hl31 2 rfl) ?_
    refine x_get (pc := 32) (T := TX8) (N := 9) (ci := 8) (v := .int nfault_39) E hw41 inX8 4 7 q_552 rfl rfl (by decide) rfl rfl dX7_readAgain_32 ?_
    refine lv_if_ne (pc := 35) (tgt := 79) E.1 E.2.1 dX7_readAgain_35 (by decide) (fun c_46 => ?_) (fun c_46 => ?_)
    · skip
      have hc_46 := neE (a := nfault_39.toInt) (b := 0) rfl (by decide +kernel) c_46
      exact em_v (w1 := (fun (u : Int32 × Int32 × Int32 × Int32 × Int32 × Int32 × (Nat → Int32) × (Nat → Int32) × Int32) => (WZ_RoundT cI cJ ad mr (upd (upd (upd (upd (upd (upd (upd mi 10 u.1) 13 u.2.1) 11 u.2.2.1) 12 u.2.2.2.1) 14 u.2.2.2.2.1) 15 u.2.2.2.2.2.1) 5 u.2.2.2.2.2.2.2.2) (va_up (va_up mf 3 u.2.2.2.2.2.2.1) 4 u.2.2.2.2.2.2.2.1) mg))) E hr hlk (nat_35, nplace_36, nkind_37, nvalue_38, nfault_39, nfaultPlace_40, (mf 3), (mf 4), (mi 5)) hw41 ⟨hp_42, hp_43, hp_44, hp_45, h5.1, h5.2, (show RI (mf 3) (mf 4) ((mi 5).toInt).toNat (mi 2).toInt (FX (mf 3) (mf 4) ((mi 5).toInt).toNat ((mi 2).toInt)) from ⟨x_ri.1, Int.le_refl _⟩)⟩ (Nat.le_of_ble_eq_true rfl) (Nat.le_of_ble_eq_true rfl) dX7_readAgain_79
    · skip
      have hc_46 := eqE (a := nfault_39.toInt) (b := 0) rfl (by decide +kernel) c_46
      refine lv_aload_n (pc := 38) E.1 E.2.1 dX7_readAgain_38 rfl (lv_at hl31 1 rfl) ?_
      refine x_get (pc := 39) (T := TX7) (N := 5) (ci := 7) (v := .int (mi 5)) E hw41 inX7 0 4 q_426 rfl rfl (by decide) rfl rfl dX7_readAgain_39 ?_
      refine lv_iconst (pc := 42) (v := 4) E.1 E.2.1 dX7_readAgain_42 (by decide +kernel) ?_
      refine lv_icmp_ge (pc := 43) (tgt := 79) E.1 E.2.1 dX7_readAgain_43 (by decide) (fun c_47 => absurd c_47 (mnleE (a := 4) (b := (mi 5).toInt) (by decide +kernel) rfl (by omega))) (fun _ => ?_)
      refine lv_aload_n (pc := 46) E.1 E.2.1 dX7_readAgain_46 rfl (lv_at hl31 1 rfl) ?_
      refine x_get (pc := 47) (T := TX7) (N := 5) (ci := 7) (v := .ref (mr 3)) E hw41 inX7 0 2 q_424 rfl rfl (by decide) rfl rfl dX7_readAgain_47 ?_
      refine lv_aload_n (pc := 50) E.1 E.2.1 dX7_readAgain_50 rfl (lv_at hl31 1 rfl) ?_
      refine x_get (pc := 51) (T := TX7) (N := 5) (ci := 7) (v := .int (mi 5)) E hw41 inX7 0 4 q_426 rfl rfl (by decide) rfl rfl dX7_readAgain_51 ?_
      refine lv_aload_n (pc := 54) E.1 E.2.1 dX7_readAgain_54 rfl (lv_at hl31 1 rfl) ?_
      refine x_get (pc := 55) (T := TX7) (N := 5) (ci := 7) (v := .int (mi 2)) E hw41 inX7 0 1 q_421 rfl rfl (by decide) rfl rfl dX7_readAgain_55 ?_
      refine x_iastG (pc := 58) (f := (mf 3)) (wf := fun g => (WZ_RoundT cI cJ ad mr (upd (upd (upd (upd (upd (upd mi 10 nat_35) 11 nkind_37) 12 nvalue_38) 13 nplace_36) 14 nfault_39) 15 nfaultPlace_40) (va_up mf 3 g) mg)) E hw41 2 rfl (inbE (a := (mi 5).toInt) rfl (by omega)) (fun _ => rfl) dX7_readAgain_58 (fun g_48 H locs eg_48 hw49 => ?_)
      refine lv_aload_n (pc := 59) E.1 E.2.1 dX7_readAgain_59 rfl (lv_at hl31 1 rfl) ?_
      refine x_get (pc := 60) (T := TX7) (N := 5) (ci := 7) (v := .ref (mr 4)) E hw49 inX7 0 3 q_425 rfl rfl (by decide) rfl rfl dX7_readAgain_60 ?_
      refine lv_aload_n (pc := 63) E.1 E.2.1 dX7_readAgain_63 rfl (lv_at hl31 1 rfl) ?_
      refine x_get (pc := 64) (T := TX7) (N := 5) (ci := 7) (v := .int (mi 5)) E hw49 inX7 0 4 q_426 rfl rfl (by decide) rfl rfl dX7_readAgain_64 ?_
      refine lv_iload_n (pc := 67) E.1 E.2.1 dX7_readAgain_67 rfl (lv_at hl31 0 rfl) ?_
      refine x_iastG (pc := 68) (f := (mf 4)) (wf := fun g => (WZ_RoundT cI cJ ad mr (upd (upd (upd (upd (upd (upd mi 10 nat_35) 11 nkind_37) 12 nvalue_38) 13 nplace_36) 14 nfault_39) 15 nfaultPlace_40) (va_up (va_up mf 3 g_48) 4 g) mg)) E hw49 3 rfl (inbE (a := (mi 5).toInt) rfl (by omega)) (fun _ => rfl) dX7_readAgain_68 (fun g_50 H locs eg_50 hw51 => ?_)
      refine lv_aload_n (pc := 69) E.1 E.2.1 dX7_readAgain_69 rfl (lv_at hl31 1 rfl) ?_
      refine lv_dup (pc := 70) E.1 E.2.1 dX7_readAgain_70 rfl ?_
      refine x_get (pc := 71) (T := TX7) (N := 5) (ci := 7) (v := .int (mi 5)) E hw51 inX7 0 4 q_426 rfl rfl (by decide) rfl rfl dX7_readAgain_71 ?_
      refine lv_iconst (pc := 74) (v := 1) E.1 E.2.1 dX7_readAgain_74 (by decide +kernel) ?_
      refine lv_iadd (pc := 75) E.1 E.2.1 dX7_readAgain_75 ?_
      refine lv_topi (fun v_52 ev_52 => ?_)
      have hv_52 : v_52.toInt = (mi 5).toInt + 1 := by rw [ev_52]; exact addE rfl (by decide +kernel) (by omega)
      refine x_put (pc := 76) (T := TX7) (N := 5) (ci := 7) (ws' := (WZ_RoundT cI cJ ad mr (upd (upd (upd (upd (upd (upd (upd mi 5 v_52) 10 nat_35) 11 nkind_37) 12 nvalue_38) 13 nplace_36) 14 nfault_39) 15 nfaultPlace_40) (va_up (va_up mf 3 g_48) 4 g_50) mg)) E hw51 inX7 tyX7_ok nmX7 0 4 q_426 rfl rfl (by decide) rfl rfl rfl rfl (Nat.le_of_ble_eq_true rfl) rfl dX7_readAgain_76 (fun H locs hw53 => ?_)
      exact em_v (w1 := (fun (u : Int32 × Int32 × Int32 × Int32 × Int32 × Int32 × (Nat → Int32) × (Nat → Int32) × Int32) => (WZ_RoundT cI cJ ad mr (upd (upd (upd (upd (upd (upd (upd mi 10 u.1) 13 u.2.1) 11 u.2.2.1) 12 u.2.2.2.1) 14 u.2.2.2.2.1) 15 u.2.2.2.2.2.1) 5 u.2.2.2.2.2.2.2.2) (va_up (va_up mf 3 u.2.2.2.2.2.2.1) 4 u.2.2.2.2.2.2.2.1) mg))) E hr hlk (nat_35, nplace_36, nkind_37, nvalue_38, nfault_39, nfaultPlace_40, g_48, g_50, v_52) hw53 ⟨hp_42, hp_43, hp_44, hp_45, (by show 0 ≤ v_52.toInt; omega), (by show v_52.toInt ≤ 4; omega), (show RI g_48 g_50 (v_52.toInt).toNat (mi 2).toInt (FX (mf 3) (mf 4) ((mi 5).toInt).toNat ((mi 2).toInt)) from (RI_open (o := ((mi 5).toInt).toNat) ⟨x_ri.1, Int.le_refl _⟩ (by omega) eg_48 eg_50 (by omega) (by omega) (by omega) (by omega) (by omega)))⟩ (Nat.le_of_ble_eq_true rfl) (Nat.le_of_ble_eq_true rfl) dX7_readAgain_79
  · skip
    have hc_4 := nltE (a := (mi 5).toInt) (b := 4) rfl (by decide +kernel) c_4
    refine lv_aload_n (pc := 8) E.1 E.2.1 dX7_readAgain_8 rfl (lv_at hl3 1 rfl) ?_
    refine lv_iconst (pc := 9) (v := 3) E.1 E.2.1 dX7_readAgain_9 (by decide +kernel) ?_
    refine ck_v (pc := 10) (ws' := (fun (u : Int32 × Int32) => (WZ_RoundT cI cJ ad mr (upd (upd mi 14 u.1) 15 u.2) mf mg))) [false, false, false, false, true, true] hw1 rfl (fun hC_ => (rn_V (As := [.int 3]) (rest := []) E hw1 (t_refuse l D cI cJ _ (shf 6 mr) (shf 6 mi) (shf 6 mf) (shf 6 mg) 3 ad (by show 1 ≤ (3 : Int32).toInt ∧ (3 : Int32).toInt ≤ 4; have k_0 : (3 : Int32).toInt = 3 := (by decide +kernel); omega) h4) (gdV q_952 q_857 q_858 q_160 q_859) hdV_X8_refuse ⟨rfl, rfl⟩ ⟨(Nat.le_of_ble_eq_true rfl), (Nat.le_of_ble_eq_true rfl)⟩ ⟨(Nat.le_of_ble_eq_true rfl), (Nat.le_of_ble_eq_true rfl)⟩ xT_b xT_at 4 8 rfl rfl rfl _ hC_ (nd_T _ 0) rfl hl3.1 rfl (Nat.le_of_ble_eq_true rfl) dX7_readAgain_10)) rfl (fun _ => rfl) (fun _ => rfl) (fun u_54 H1 locs hp hw56 => ?_)
    obtain ⟨nfault_57, nfaultPlace_58⟩ := u_54
    generalize H1 = H at hw56 ⊢
    have hw59 : WD D A s.heap (WZ_RoundT cI cJ ad mr (upd (upd mi 14 nfault_57) 15 nfaultPlace_58) mf mg) H locs := hw56
    obtain ⟨hp_60, hp_61⟩ := hp
    have hp_60 : 1 ≤ nfault_57.toInt := hp_60
    have hp_61 : nfault_57.toInt ≤ 4 := hp_61
    refine lv_aload_n (pc := 13) E.1 E.2.1 dX7_readAgain_13 rfl (lv_at hl3 1 rfl) ?_
    refine ck_v (pc := 14) (ws' := (fun (u : Int32 × Int32 × Int32 × Int32) => (WZ_RoundT cI cJ ad mr (upd (upd (upd (upd (upd (upd mi 10 u.1) 11 u.2.2.1) 12 u.2.2.2) 13 u.2.1) 14 nfault_57) 15 nfaultPlace_58) mf mg))) [false, false, false, false, true, true] hw59 rfl (fun hC_ => (rn_V (As := []) (rest := []) E hw59 (t_step l D cI cJ _ (shf 6 mr) (shf 6 (upd (upd mi 14 nfault_57) 15 nfaultPlace_58)) (shf 6 mf) (shf 6 mg) ad av tf h0 h1 h2 h3) (gdV q_941 q_723 q_724 q_160 q_725) hdV_X8_step ⟨rfl, rfl⟩ ⟨(Nat.le_of_ble_eq_true rfl), (Nat.le_of_ble_eq_true rfl)⟩ ⟨(Nat.le_of_ble_eq_true rfl), (Nat.le_of_ble_eq_true rfl)⟩ xT8_b (xT8_at hX hw59.2.2.1 (va_free hw59.2.1 hw59.2.2.1 hw59.2.2.2 _ hC_)) 4 8 rfl rfl rfl _ hC_ (nd_T _ 0) rfl hl3.1 rfl (Nat.le_of_ble_eq_true rfl) dX7_readAgain_14)) rfl (fun _ => rfl) (fun _ => rfl) (fun u_62 H1 locs hp hw64 => ?_)
    obtain ⟨nat_65, nplace_66, nkind_67, nvalue_68⟩ := u_62
    generalize H1 = H at hw64 ⊢
    have hw69 : WD D A s.heap (WZ_RoundT cI cJ ad mr (upd (upd (upd (upd (upd (upd mi 10 nat_65) 11 nkind_67) 12 nvalue_68) 13 nplace_66) 14 nfault_57) 15 nfaultPlace_58) mf mg) H locs := hw64
    obtain ⟨hp_70, hp_71⟩ := hp
    have hp_70 : 0 ≤ nat_65.toInt := hp_70
    have hp_71 : nat_65.toInt ≤ (mi 8).toInt := hp_71
    refine lv_aload_n (pc := 17) E.1 E.2.1 dX7_readAgain_17 rfl (lv_at hl3 1 rfl) ?_
    refine lv_iconst (pc := 18) (v := 1) E.1 E.2.1 dX7_readAgain_18 (by decide +kernel) ?_
    refine lv_bipush (pc := 19) (v := 9) E.1 E.2.1 dX7_readAgain_19 (by decide +kernel) ?_
    refine ck_i (pc := 21) (ws' := (fun (u : Int32 × Int32 × Int32 × Int32 × Int32 × Int32) => (WZ_RoundT cI cJ ad mr (upd (upd (upd (upd (upd (upd mi 10 u.1) 11 u.2.2.1) 12 u.2.2.2.1) 13 u.2.1) 14 u.2.2.2.2.1) 15 u.2.2.2.2.2) mf mg))) [false, false, false, false, true, true] hw69 rfl (fun hC_ => (rn_V (As := [.int 1, .int 9]) (rest := []) E hw69 (t_numberA l D cI cJ _ (shf 6 mr) (shf 6 (upd (upd (upd (upd (upd (upd mi 10 nat_65) 11 nkind_67) 12 nvalue_68) 13 nplace_66) 14 nfault_57) 15 nfaultPlace_58)) (shf 6 mf) (shf 6 mg) 1 9 ad av tf h0 hp_70 hp_71 h3 (by show 0 ≤ nfault_57.toInt ∧ nfault_57.toInt ≤ 4; omega) (by show (1 : Int32).toInt ≤ (9 : Int32).toInt; have k_0 : (1 : Int32).toInt = 1 := (by decide +kernel); have k_1 : (9 : Int32).toInt = 9 := (by decide +kernel); omega)) (gdV q_942 q_879 q_880 q_160 q_881) hdV_X8_number ⟨rfl, rfl⟩ ⟨(Nat.le_of_ble_eq_true rfl), (Nat.le_of_ble_eq_true rfl)⟩ ⟨(Nat.le_of_ble_eq_true rfl), (Nat.le_of_ble_eq_true rfl)⟩ xT8_b (xT8_at hX hw69.2.2.1 (va_free hw69.2.1 hw69.2.2.1 hw69.2.2.2 _ hC_)) 4 8 rfl rfl rfl _ hC_ (nd_T _ 0) rfl hl3.1 rfl (Nat.le_of_ble_eq_true rfl) dX7_readAgain_21)) rfl (fun _ => rfl) (fun _ => rfl) (fun r_73 u_72 H1 locs hp hw74 => ?_)
    obtain ⟨nat_75, nplace_76, nkind_77, nvalue_78, nfault_79, nfaultPlace_80⟩ := u_72
    generalize H1 = H at hw74 ⊢
    have hw81 : WD D A s.heap (WZ_RoundT cI cJ ad mr (upd (upd (upd (upd (upd (upd mi 10 nat_75) 11 nkind_77) 12 nvalue_78) 13 nplace_76) 14 nfault_79) 15 nfaultPlace_80) mf mg) H locs := hw74
    obtain ⟨hp_82, hp_83, hp_84, hp_85, hp_86, hp_87⟩ := hp
    have hp_82 : 0 ≤ nat_75.toInt := hp_82
    have hp_83 : nat_75.toInt ≤ (mi 8).toInt := hp_83
    have hp_84 : 0 ≤ nfault_79.toInt := hp_84
    have hp_85 : nfault_79.toInt ≤ 4 := hp_85
    have hp_86 : (1 : Int32).toInt ≤ r_73.toInt := hp_86
    rw [show (1 : Int32).toInt = 1 from by decide +kernel] at hp_86
    have hp_87 : r_73.toInt ≤ (9 : Int32).toInt := hp_87
    rw [show (9 : Int32).toInt = 9 from by decide +kernel] at hp_87
    refine lv_istore_n (pc := 24) (lv' := [(2, .int r_73), (0, .ref (mr 0)), (1, .ref (mr 6))]) E.1 E.2.1 dX7_readAgain_24 rfl hl3 (by decide) rfl (fun ls hl88 => ?_)
    refine lv_aload_n (pc := 25) E.1 E.2.1 dX7_readAgain_25 rfl (lv_at hl88 2 rfl) ?_
    refine lv_bipush (pc := 26) (v := 40) E.1 E.2.1 dX7_readAgain_26 (by decide +kernel) ?_
    refine ck_v (pc := 28) (ws' := (fun (u : Int32 × Int32 × Int32 × Int32 × Int32 × Int32) => (WZ_RoundT cI cJ ad mr (upd (upd (upd (upd (upd (upd mi 10 u.1) 11 u.2.2.1) 12 u.2.2.2.1) 13 u.2.1) 14 u.2.2.2.2.1) 15 u.2.2.2.2.2) mf mg))) [false, false, false, false, true, true] hw81 rfl (fun hC_ => (rn_V (As := [.int 40]) (rest := []) E hw81 (t_pass l D cI cJ _ (shf 6 mr) (shf 6 (upd (upd (upd (upd (upd (upd mi 10 nat_75) 11 nkind_77) 12 nvalue_78) 13 nplace_76) 14 nfault_79) 15 nfaultPlace_80)) (shf 6 mf) (shf 6 mg) 40 ad av tf h0 hp_82 hp_83 h3 ⟨hp_84, hp_85⟩) (gdV q_943 q_861 q_862 q_160 q_863) hdV_X8_pass ⟨rfl, rfl⟩ ⟨(Nat.le_of_ble_eq_true rfl), (Nat.le_of_ble_eq_true rfl)⟩ ⟨(Nat.le_of_ble_eq_true rfl), (Nat.le_of_ble_eq_true rfl)⟩ xT8_b (xT8_at hX hw81.2.2.1 (va_free hw81.2.1 hw81.2.2.1 hw81.2.2.2 _ hC_)) 4 8 rfl rfl rfl _ hC_ (nd_T _ 0) rfl hl88.1 rfl (Nat.le_of_ble_eq_true rfl) dX7_readAgain_28)) rfl (fun _ => rfl) (fun _ => rfl) (fun u_89 H1 locs hp hw91 => ?_)
    obtain ⟨nat_92, nplace_93, nkind_94, nvalue_95, nfault_96, nfaultPlace_97⟩ := u_89
    generalize H1 = H at hw91 ⊢
    have hw98 : WD D A s.heap (WZ_RoundT cI cJ ad mr (upd (upd (upd (upd (upd (upd mi 10 nat_92) 11 nkind_94) 12 nvalue_95) 13 nplace_93) 14 nfault_96) 15 nfaultPlace_97) mf mg) H locs := hw91
    obtain ⟨hp_99, hp_100, hp_101, hp_102⟩ := hp
    have hp_99 : 0 ≤ nat_92.toInt := hp_99
    have hp_100 : nat_92.toInt ≤ (mi 8).toInt := hp_100
    have hp_101 : 0 ≤ nfault_96.toInt := hp_101
    have hp_102 : nfault_96.toInt ≤ 4 := hp_102
    refine lv_aload_n (pc := 31) E.1 E.2.1 dX7_readAgain_31 rfl (lv_at hl88 2 rfl) ?_
    refine x_get (pc := 32) (T := TX8) (N := 9) (ci := 8) (v := .int nfault_96) E hw98 inX8 4 7 q_552 rfl rfl (by decide) rfl rfl dX7_readAgain_32 ?_
    refine lv_if_ne (pc := 35) (tgt := 79) E.1 E.2.1 dX7_readAgain_35 (by decide) (fun c_103 => ?_) (fun c_103 => ?_)
    · skip
      have hc_103 := neE (a := nfault_96.toInt) (b := 0) rfl (by decide +kernel) c_103
      exact em_v (w1 := (fun (u : Int32 × Int32 × Int32 × Int32 × Int32 × Int32 × (Nat → Int32) × (Nat → Int32) × Int32) => (WZ_RoundT cI cJ ad mr (upd (upd (upd (upd (upd (upd (upd mi 10 u.1) 13 u.2.1) 11 u.2.2.1) 12 u.2.2.2.1) 14 u.2.2.2.2.1) 15 u.2.2.2.2.2.1) 5 u.2.2.2.2.2.2.2.2) (va_up (va_up mf 3 u.2.2.2.2.2.2.1) 4 u.2.2.2.2.2.2.2.1) mg))) E hr hlk (nat_92, nplace_93, nkind_94, nvalue_95, nfault_96, nfaultPlace_97, (mf 3), (mf 4), (mi 5)) hw98 ⟨hp_99, hp_100, hp_101, hp_102, h5.1, h5.2, (show RI (mf 3) (mf 4) ((mi 5).toInt).toNat (mi 2).toInt (FX (mf 3) (mf 4) ((mi 5).toInt).toNat ((mi 2).toInt)) from ⟨x_ri.1, Int.le_refl _⟩)⟩ (Nat.le_of_ble_eq_true rfl) (Nat.le_of_ble_eq_true rfl) dX7_readAgain_79
    · skip
      have hc_103 := eqE (a := nfault_96.toInt) (b := 0) rfl (by decide +kernel) c_103
      refine lv_aload_n (pc := 38) E.1 E.2.1 dX7_readAgain_38 rfl (lv_at hl88 1 rfl) ?_
      refine x_get (pc := 39) (T := TX7) (N := 5) (ci := 7) (v := .int (mi 5)) E hw98 inX7 0 4 q_426 rfl rfl (by decide) rfl rfl dX7_readAgain_39 ?_
      refine lv_iconst (pc := 42) (v := 4) E.1 E.2.1 dX7_readAgain_42 (by decide +kernel) ?_
      refine lv_icmp_ge (pc := 43) (tgt := 79) E.1 E.2.1 dX7_readAgain_43 (by decide) (fun _ => ?_) (fun c_104 => absurd (mleE (a := 4) (b := (mi 5).toInt) (by decide +kernel) rfl (by omega)) c_104)
      exact em_v (w1 := (fun (u : Int32 × Int32 × Int32 × Int32 × Int32 × Int32 × (Nat → Int32) × (Nat → Int32) × Int32) => (WZ_RoundT cI cJ ad mr (upd (upd (upd (upd (upd (upd (upd mi 10 u.1) 13 u.2.1) 11 u.2.2.1) 12 u.2.2.2.1) 14 u.2.2.2.2.1) 15 u.2.2.2.2.2.1) 5 u.2.2.2.2.2.2.2.2) (va_up (va_up mf 3 u.2.2.2.2.2.2.1) 4 u.2.2.2.2.2.2.2.1) mg))) E hr hlk (nat_92, nplace_93, nkind_94, nvalue_95, nfault_96, nfaultPlace_97, (mf 3), (mf 4), (mi 5)) hw98 ⟨hp_99, hp_100, hp_101, hp_102, h5.1, h5.2, (show RI (mf 3) (mf 4) ((mi 5).toInt).toNat (mi 2).toInt (FX (mf 3) (mf 4) ((mi 5).toInt).toNat ((mi 2).toInt)) from ⟨x_ri.1, Int.le_refl _⟩)⟩ (Nat.le_of_ble_eq_true rfl) (Nat.le_of_ble_eq_true rfl) dX7_readAgain_79
