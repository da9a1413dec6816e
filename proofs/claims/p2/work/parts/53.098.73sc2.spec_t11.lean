set_option maxHeartbeats 4000000 in
set_option maxRecDepth 100000 in
theorem t_repeatW (l : Launch) (D : va_G) (cI cJ : ClassId) (sz : Nat) (mr : Nat → Nat) (mi : Nat → Int32) (mf : Nat → Nat → Int32) (mg : Nat → Nat → Int64)  (h0 : 1 ≤ (mi 5).toInt ∧ (mi 5).toInt ≤ 4) (h1 : 0 ≤ (mi 2).toInt) (h2 : (mi 2).toInt ≤ 157857660) (x_ri : RI (mf 3) (mf 4) ((mi 5).toInt).toNat (mi 2).toInt 157857660) : Met l yX7_repeat (Cond.code yX7_repeat cX7_repeat 4 none :: GW) ({ frames := 1, cells := 0, slots := 0, locals := 40 } : Room) (va_Pc [.ref (mr 0)] (PW D cI cJ sz (WZ_Round cI cJ mr mi mf mg) xT)) (va_Qv (fun (u : Int32 × (Nat → Int32) × Int32) => (u.1.toInt = (mi 5).toInt - 1) ∧ (0 ≤ u.2.2.toInt) ∧ (RI (mf 3) (mf 4) (u.1.toInt).toNat u.2.2.toInt (FX (mf 3) (mf 4) ((mi 5).toInt).toNat ((mi 2).toInt))) ∧ ((∀ h : Int, STV (mf 1) (mi 2).toInt h → STV u.2.1 u.2.2.toInt h)) ∧ ((u.2.2.toInt, (stkL (mf 3) (mf 4) (u.1.toInt).toNat)) = rstp ((mi 2).toInt, (stkL (mf 3) (mf 4) ((mi 5).toInt).toNat)) (3, 0))) (fun u => QW D cI cJ (va_A (WZ_Round cI cJ mr mi mf mg) sz) ((fun (u : Int32 × (Nat → Int32) × Int32) => (WZ_Round cI cJ mr (upd (upd mi 5 u.1) 2 u.2.2) (va_up mf 1 u.2.1) mg)) u)) (va_A (WZ_Round cI cJ mr mi mf mg) sz)) 0 0 (va_A (WZ_Round cI cJ mr mi mf mg) sz) := by
  refine mk_met (y := yX7_repeat) (bytes := cX7_repeat) (maxL := 4) (avs := [.ref (mr 0)]) (WS := (WZ_Round cI cJ mr mi mf mg)) (Qf := fun A => va_Qv (fun (u : Int32 × (Nat → Int32) × Int32) => (u.1.toInt = (mi 5).toInt - 1) ∧ (0 ≤ u.2.2.toInt) ∧ (RI (mf 3) (mf 4) (u.1.toInt).toNat u.2.2.toInt (FX (mf 3) (mf 4) ((mi 5).toInt).toNat ((mi 2).toInt))) ∧ ((∀ h : Int, STV (mf 1) (mi 2).toInt h → STV u.2.1 u.2.2.toInt h)) ∧ ((u.2.2.toInt, (stkL (mf 3) (mf 4) (u.1.toInt).toNat)) = rstp ((mi 2).toInt, (stkL (mf 3) (mf 4) ((mi 5).toInt).toNat)) (3, 0))) (fun u => QW D cI cJ A ((fun (u : Int32 × (Nat → Int32) × Int32) => (WZ_Round cI cJ mr (upd (upd mi 5 u.1) 2 u.2.2) (va_up mf 1 u.2.1) mg)) u)) A) (by decide) (Nat.le_of_ble_eq_true rfl) ?_
  intro p e s m below meth c A ls E hr hlk hnm hX hw1 hl2
  have hl3 : lv_has ls 4 [(0, .ref (mr 0))] := hl2
  refine lv_aload_n (pc := 0) E.1 E.2.1 dX7_repeat_0 rfl (lv_at hl3 0 rfl) ?_
  refine x_get (pc := 1) (T := TX7) (N := 5) (ci := 7) (v := .int (mi 5)) E hw1 inX7 0 4 q_426 rfl rfl (by decide) rfl rfl dX7_repeat_1 ?_
  refine lv_if_gt (pc := 4) (tgt := 8) E.1 E.2.1 dX7_repeat_4 (by decide) (fun _ => ?_) (fun c_4 => absurd (mltE (a := 0) (b := (mi 5).toInt) (by decide +kernel) rfl (by omega)) c_4)
  refine lv_aload_n (pc := 8) E.1 E.2.1 dX7_repeat_8 rfl (lv_at hl3 0 rfl) ?_
  refine lv_dup (pc := 9) E.1 E.2.1 dX7_repeat_9 rfl ?_
  refine x_get (pc := 10) (T := TX7) (N := 5) (ci := 7) (v := .int (mi 5)) E hw1 inX7 0 4 q_426 rfl rfl (by decide) rfl rfl dX7_repeat_10 ?_
  refine lv_iconst (pc := 13) (v := 1) E.1 E.2.1 dX7_repeat_13 (by decide +kernel) ?_
  refine lv_isub (pc := 14) E.1 E.2.1 dX7_repeat_14 ?_
  refine lv_topi (fun v_5 ev_5 => ?_)
  have hv_5 : v_5.toInt = (mi 5).toInt - 1 := by rw [ev_5]; exact subE rfl (by decide +kernel) (by omega)
  refine x_put (pc := 15) (T := TX7) (N := 5) (ci := 7) (ws' := (WZ_Round cI cJ mr (upd mi 5 v_5) mf mg)) E hw1 inX7 tyX7_ok nmX7 0 4 q_426 rfl rfl (by decide) rfl rfl rfl rfl (Nat.le_of_ble_eq_true rfl) rfl dX7_repeat_15 (fun H locs hw6 => ?_)
  refine lv_aload_n (pc := 18) E.1 E.2.1 dX7_repeat_18 rfl (lv_at hl3 0 rfl) ?_
  refine x_get (pc := 19) (T := TX7) (N := 5) (ci := 7) (v := .int (mi 2)) E hw6 inX7 0 1 q_421 rfl rfl (by decide) rfl rfl dX7_repeat_19 ?_
  refine lv_aload_n (pc := 22) E.1 E.2.1 dX7_repeat_22 rfl (lv_at hl3 0 rfl) ?_
  refine x_get (pc := 23) (T := TX7) (N := 5) (ci := 7) (v := .ref (mr 3)) E hw6 inX7 0 2 q_424 rfl rfl (by decide) rfl rfl dX7_repeat_23 ?_
  refine lv_aload_n (pc := 26) E.1 E.2.1 dX7_repeat_26 rfl (lv_at hl3 0 rfl) ?_
  refine x_get (pc := 27) (T := TX7) (N := 5) (ci := 7) (v := .int v_5) E hw6 inX7 0 4 q_426 rfl rfl (by decide) rfl rfl dX7_repeat_27 ?_
  refine x_iald (pc := 30) (f := (mf 3)) E hw6 2 rfl (inbE (a := v_5.toInt) rfl (by omega)) dX7_repeat_30 ?_
  refine lv_topi (fun v_7 ev_7 => ?_)
  have hsa := x_ri.1 v_5.toNatClampNeg (by have q := idxI (x := v_5) (by omega); omega)
  rw [← ev_7] at hsa
  have hsb : 0 ≤ v_7.toInt ∧ v_7.toInt ≤ (mi 2).toInt := hsa.1
  refine lv_isub (pc := 31) E.1 E.2.1 dX7_repeat_31 ?_
  refine lv_topi (fun v_8 ev_8 => ?_)
  have hv_8 : v_8.toInt = (mi 2).toInt - v_7.toInt := by rw [ev_8]; exact subE rfl rfl (by omega)
  refine lv_istore_n (pc := 32) (lv' := [(1, .int v_8), (0, .ref (mr 0))]) E.1 E.2.1 dX7_repeat_32 rfl hl3 (by decide) rfl (fun ls hl9 => ?_)
  refine lv_aload_n (pc := 33) E.1 E.2.1 dX7_repeat_33 rfl (lv_at hl9 1 rfl) ?_
  refine x_get (pc := 34) (T := TX7) (N := 5) (ci := 7) (v := .ref (mr 3)) E hw6 inX7 0 2 q_424 rfl rfl (by decide) rfl rfl dX7_repeat_34 ?_
  refine lv_aload_n (pc := 37) E.1 E.2.1 dX7_repeat_37 rfl (lv_at hl9 1 rfl) ?_
  refine x_get (pc := 38) (T := TX7) (N := 5) (ci := 7) (v := .int v_5) E hw6 inX7 0 4 q_426 rfl rfl (by decide) rfl rfl dX7_repeat_38 ?_
  refine x_iald (pc := 41) (f := (mf 3)) E hw6 2 rfl (inbE (a := v_5.toInt) rfl (by omega)) dX7_repeat_41 ?_
  refine lv_topi (fun v_10 ev_10 => ?_)
  have hsv_10 : v_10.toInt = v_7.toInt := by rw [ev_10, ev_7]
  refine lv_iload_n (pc := 42) E.1 E.2.1 dX7_repeat_42 rfl (lv_at hl9 0 rfl) ?_
  refine lv_aload_n (pc := 43) E.1 E.2.1 dX7_repeat_43 rfl (lv_at hl9 1 rfl) ?_
  refine x_get (pc := 44) (T := TX7) (N := 5) (ci := 7) (v := .ref (mr 4)) E hw6 inX7 0 3 q_425 rfl rfl (by decide) rfl rfl dX7_repeat_44 ?_
  refine lv_aload_n (pc := 47) E.1 E.2.1 dX7_repeat_47 rfl (lv_at hl9 1 rfl) ?_
  refine x_get (pc := 48) (T := TX7) (N := 5) (ci := 7) (v := .int v_5) E hw6 inX7 0 4 q_426 rfl rfl (by decide) rfl rfl dX7_repeat_48 ?_
  refine x_iald (pc := 51) (f := (mf 4)) E hw6 3 rfl (inbE (a := v_5.toInt) rfl (by omega)) dX7_repeat_51 ?_
  refine lv_topi (fun v_11 ev_11 => ?_)
  have hta := x_ri.1 v_5.toNatClampNeg (by have q := idxI (x := v_5) (by omega); omega)
  rw [← ev_11] at hta
  have htb : 1 ≤ v_11.toInt ∧ v_11.toInt ≤ 9 := hta.2
  refine lv_imul (pc := 52) E.1 E.2.1 dX7_repeat_52 ?_
  refine lv_topi (fun v_12 ev_12 => ?_)
  have hbv_12 : 0 ≤ v_12.toInt ∧ v_12.toInt ≤ 1420718940 := by rw [ev_12]; exact mulB (a := 157857660) (b := 9) (by omega) (by omega) (by decide)
  have hmv_12 : v_12.toInt = v_8.toInt * v_11.toInt := by rw [ev_12]; exact mulBE (a := 157857660) (b := 9) (by omega) (by omega) (by decide)
  refine lv_iadd (pc := 53) E.1 E.2.1 dX7_repeat_53 ?_
  refine lv_topi (fun v_13 ev_13 => ?_)
  have hv_13 : v_13.toInt = v_10.toInt + v_12.toInt := by rw [ev_13]; exact addE rfl rfl (by omega)
  refine lv_istore_n (pc := 54) (lv' := [(2, .int v_13), (1, .int v_8), (0, .ref (mr 0))]) E.1 E.2.1 dX7_repeat_54 rfl hl9 (by decide) rfl (fun ls hl14 => ?_)
  have hpp : v_8.toInt = (mi 2).toInt - v_7.toInt := by omega
  rw [hpp] at hmv_12
  have hgr := grow (x := (mi 2).toInt) (s := v_7.toInt) (t := v_11.toInt) (by omega) (by omega)
  have hge : (mi 2).toInt ≤ v_13.toInt := by omega
  have hcl : RI (mf 3) (mf 4) (v_5.toInt).toNat v_13.toInt (FX (mf 3) (mf 4) ((mi 5).toInt).toNat ((mi 2).toInt)) := RI_close ⟨x_ri.1, Int.le_refl _⟩ (o' := (v_5.toInt).toNat) (by omega) (by have q1 : (mf 3) ((v_5.toInt).toNat) = v_7 := (pd_eq ev_7 rfl (by omega)); have q2 : (mf 4) ((v_5.toInt).toNat) = v_11 := (pd_eq ev_11 rfl (by omega)); rw [q1, q2]; omega)
  have hrq : (v_13.toInt, (stkL (mf 3) (mf 4) (v_5.toInt).toNat)) = rstp ((mi 2).toInt, (stkL (mf 3) (mf 4) ((mi 5).toInt).toNat)) (3, 0) := rst_close (o' := (v_5.toInt).toNat) (by omega) (by have q1 : (mf 3) ((v_5.toInt).toNat) = v_7 := (pd_eq ev_7 rfl (by omega)); have q2 : (mf 4) ((v_5.toInt).toNat) = v_11 := (pd_eq ev_11 rfl (by omega)); rw [q1, q2]; omega)
  refine lv_aload_n (pc := 55) E.1 E.2.1 dX7_repeat_55 rfl (lv_at hl14 2 rfl) ?_
  refine x_get (pc := 56) (T := TX7) (N := 5) (ci := 7) (v := .int (mi 2)) E hw6 inX7 0 1 q_421 rfl rfl (by decide) rfl rfl dX7_repeat_56 ?_
  refine lv_istore_n (pc := 59) (lv' := [(3, .int (mi 2)), (2, .int v_13), (1, .int v_8), (0, .ref (mr 0))]) E.1 E.2.1 dX7_repeat_59 rfl hl14 (by decide) rfl (fun ls hl15 => ?_)
  have loop_16 : ∀ (k : Nat) (x_17 : Int32) (g_18 : Nat → Int32) (H : Heap) (locs : List Loc) (ls : Array Slot), ((mi 2).toInt ≤ x_17.toInt) ∧ (x_17.toInt ≤ v_13.toInt) ∧ ((∀ h : Int, STV (mf 1) (mi 2).toInt h → STV g_18 x_17.toInt h)) → v_13.toInt - x_17.toInt < (k : Int) → WD D A s.heap (WZ_Round cI cJ mr (upd mi 5 v_5) (va_up mf 1 g_18) mg) H locs → lv_has ls 4 [(3, .int x_17), (2, .int v_13), (1, .int v_8), (0, .ref (mr 0))] → W p l e ({ frames := 1, cells := 0, slots := 0, locals := 40 } : Room) s m ([.ref (mr 0)] : List Value).toArray below meth c H locs 0 0 (MQ below (va_Qv (fun (u : Int32 × (Nat → Int32) × Int32) => (u.1.toInt = (mi 5).toInt - 1) ∧ (0 ≤ u.2.2.toInt) ∧ (RI (mf 3) (mf 4) (u.1.toInt).toNat u.2.2.toInt (FX (mf 3) (mf 4) ((mi 5).toInt).toNat ((mi 2).toInt))) ∧ ((∀ h : Int, STV (mf 1) (mi 2).toInt h → STV u.2.1 u.2.2.toInt h)) ∧ ((u.2.2.toInt, (stkL (mf 3) (mf 4) (u.1.toInt).toNat)) = rstp ((mi 2).toInt, (stkL (mf 3) (mf 4) ((mi 5).toInt).toNat)) (3, 0))) (fun u => QW D cI cJ A ((fun (u : Int32 × (Nat → Int32) × Int32) => (WZ_Round cI cJ mr (upd (upd mi 5 u.1) 2 u.2.2) (va_up mf 1 u.2.1) mg)) u)) A) ([.ref (mr 0)] : List Value).toArray s 0 0 A) (F0 m 60 ls []) := by
    intro k
    induction k with
    | zero =>
      intro x_17 g_18 _ _ _ hinv hm
      obtain ⟨hi_18_0, hi_18_1, hi_18_2⟩ := hinv
      exact absurd hm (by omega)
    | succ k ih_19 =>
      intro x_17 g_18 H locs ls hinv hm hw20 hl21
      obtain ⟨hi_18_0, hi_18_1, hi_18_2⟩ := hinv
      refine lv_iload_n (pc := 60) E.1 E.2.1 dX7_repeat_60 rfl (lv_at hl21 0 rfl) ?_
      refine lv_iload_n (pc := 61) E.1 E.2.1 dX7_repeat_61 rfl (lv_at hl21 1 rfl) ?_
      refine lv_icmp_ge (pc := 62) (tgt := 92) E.1 E.2.1 dX7_repeat_62 (by decide) (fun c_22 => ?_) (fun c_22 => ?_)
      · skip
        have hc_22 := leE (a := v_13.toInt) (b := x_17.toInt) rfl rfl c_22
        refine lv_aload_n (pc := 92) E.1 E.2.1 dX7_repeat_92 rfl (lv_at hl21 3 rfl) ?_
        refine lv_iload_n (pc := 93) E.1 E.2.1 dX7_repeat_93 rfl (lv_at hl21 1 rfl) ?_
        refine x_put (pc := 94) (T := TX7) (N := 5) (ci := 7) (ws' := (WZ_Round cI cJ mr (upd (upd mi 2 v_13) 5 v_5) (va_up mf 1 g_18) mg)) E hw20 inX7 tyX7_ok nmX7 0 1 q_421 rfl rfl (by decide) rfl rfl rfl rfl (Nat.le_of_ble_eq_true rfl) rfl dX7_repeat_94 (fun H locs hw23 => ?_)
        exact em_v (w1 := (fun (u : Int32 × (Nat → Int32) × Int32) => (WZ_Round cI cJ mr (upd (upd mi 5 u.1) 2 u.2.2) (va_up mf 1 u.2.1) mg))) E hr hlk (v_5, g_18, v_13) hw23 ⟨(by show v_5.toInt = (mi 5).toInt - 1; omega), (by show 0 ≤ v_13.toInt; omega), (show RI (mf 3) (mf 4) (v_5.toInt).toNat v_13.toInt (FX (mf 3) (mf 4) ((mi 5).toInt).toNat ((mi 2).toInt)) from hcl), (show (∀ h : Int, STV (mf 1) (mi 2).toInt h → STV g_18 v_13.toInt h) from (fun h q => STV_out (hi_18_2 h q) (by omega))), (show (v_13.toInt, (stkL (mf 3) (mf 4) (v_5.toInt).toNat)) = rstp ((mi 2).toInt, (stkL (mf 3) (mf 4) ((mi 5).toInt).toNat)) (3, 0) from hrq)⟩ (Nat.le_of_ble_eq_true rfl) (Nat.le_of_ble_eq_true rfl) dX7_repeat_97
      · skip
        have hc_22 := nleE (a := v_13.toInt) (b := x_17.toInt) rfl rfl c_22
        refine lv_iload_n (pc := 65) E.1 E.2.1 dX7_repeat_65 rfl (lv_at hl21 0 rfl) ?_
        refine lv_sipush (pc := 66) (v := 200) E.1 E.2.1 dX7_repeat_66 (by decide +kernel) ?_
        refine lv_icmp_ge (pc := 69) (tgt := 92) E.1 E.2.1 dX7_repeat_69 (by decide) (fun c_24 => ?_) (fun c_24 => ?_)
        · skip
          have hc_24 := leE (a := 200) (b := x_17.toInt) (by decide +kernel) rfl c_24
          refine lv_aload_n (pc := 92) E.1 E.2.1 dX7_repeat_92 rfl (lv_at hl21 3 rfl) ?_
          refine lv_iload_n (pc := 93) E.1 E.2.1 dX7_repeat_93 rfl (lv_at hl21 1 rfl) ?_
          refine x_put (pc := 94) (T := TX7) (N := 5) (ci := 7) (ws' := (WZ_Round cI cJ mr (upd (upd mi 2 v_13) 5 v_5) (va_up mf 1 g_18) mg)) E hw20 inX7 tyX7_ok nmX7 0 1 q_421 rfl rfl (by decide) rfl rfl rfl rfl (Nat.le_of_ble_eq_true rfl) rfl dX7_repeat_94 (fun H locs hw25 => ?_)
          exact em_v (w1 := (fun (u : Int32 × (Nat → Int32) × Int32) => (WZ_Round cI cJ mr (upd (upd mi 5 u.1) 2 u.2.2) (va_up mf 1 u.2.1) mg))) E hr hlk (v_5, g_18, v_13) hw25 ⟨(by show v_5.toInt = (mi 5).toInt - 1; omega), (by show 0 ≤ v_13.toInt; omega), (show RI (mf 3) (mf 4) (v_5.toInt).toNat v_13.toInt (FX (mf 3) (mf 4) ((mi 5).toInt).toNat ((mi 2).toInt)) from hcl), (show (∀ h : Int, STV (mf 1) (mi 2).toInt h → STV g_18 v_13.toInt h) from (fun h q => STV_out (hi_18_2 h q) (by omega))), (show (v_13.toInt, (stkL (mf 3) (mf 4) (v_5.toInt).toNat)) = rstp ((mi 2).toInt, (stkL (mf 3) (mf 4) ((mi 5).toInt).toNat)) (3, 0) from hrq)⟩ (Nat.le_of_ble_eq_true rfl) (Nat.le_of_ble_eq_true rfl) dX7_repeat_97
        · skip
          have hc_24 := nleE (a := 200) (b := x_17.toInt) (by decide +kernel) rfl c_24
          have hp1 : 1 ≤ v_8.toInt := part_pos (z := (mi 2).toInt) (s := v_7.toInt) (t := v_11.toInt) (w := v_13.toInt) hmv_12 (by omega) (by omega) (by omega) (by omega)
          refine lv_aload_n (pc := 72) E.1 E.2.1 dX7_repeat_72 rfl (lv_at hl21 3 rfl) ?_
          refine x_get (pc := 73) (T := TX7) (N := 5) (ci := 7) (v := .ref (mr 1)) E hw20 inX7 0 0 q_419 rfl rfl (by decide) rfl rfl dX7_repeat_73 ?_
          refine lv_iload_n (pc := 76) E.1 E.2.1 dX7_repeat_76 rfl (lv_at hl21 0 rfl) ?_
          refine lv_aload_n (pc := 77) E.1 E.2.1 dX7_repeat_77 rfl (lv_at hl21 3 rfl) ?_
          refine x_get (pc := 78) (T := TX7) (N := 5) (ci := 7) (v := .ref (mr 1)) E hw20 inX7 0 0 q_419 rfl rfl (by decide) rfl rfl dX7_repeat_78 ?_
          refine lv_iload_n (pc := 81) E.1 E.2.1 dX7_repeat_81 rfl (lv_at hl21 0 rfl) ?_
          refine lv_iload_n (pc := 82) E.1 E.2.1 dX7_repeat_82 rfl (lv_at hl21 2 rfl) ?_
          refine lv_isub (pc := 83) E.1 E.2.1 dX7_repeat_83 ?_
          refine lv_topi (fun v_26 ev_26 => ?_)
          have hv_26 : v_26.toInt = x_17.toInt - v_8.toInt := by rw [ev_26]; exact subE rfl rfl (by omega)
          refine x_iald (pc := 84) (f := g_18) E hw20 1 rfl (inbE (a := v_26.toInt) rfl (by omega)) dX7_repeat_84 ?_
          refine lv_topi (fun v_27 ev_27 => ?_)
          refine x_iastG (pc := 85) (f := g_18) (wf := fun g => (WZ_Round cI cJ mr (upd mi 5 v_5) (va_up mf 1 g) mg)) E hw20 1 rfl (inbE (a := x_17.toInt) rfl (by omega)) (fun _ => rfl) dX7_repeat_85 (fun g_28 H locs eg_28 hw29 => ?_)
          obtain ⟨v_30, ev_30⟩ : ∃ z : Int32, x_17 + Int32.ofInt (1) = z := ⟨_, rfl⟩
          have hv_30 : v_30.toInt = x_17.toInt + (1) := by rw [← ev_30]; exact incE rfl (by decide) (by omega)
          refine lv_iinc (pc := 86) (v := v_30) (lv' := [(3, .int v_30), (2, .int v_13), (1, .int v_8), (0, .ref (mr 0))]) E.1 E.2.1 dX7_repeat_86 hl21 (k := 0) rfl ev_30 (by decide) rfl (fun ls hl31 => ?_)
          refine lv_goto (pc := 89) (tgt := 60) E.1 E.2.1 dX7_repeat_89 (by decide) ?_
          exact ih_19 v_30 g_28 _ _ _ ⟨(by show (mi 2).toInt ≤ v_30.toInt; omega), (by show v_30.toInt ≤ v_13.toInt; omega), (fun h q => STV_add (hi_18_2 h q) eg_28 (by omega) (STV_at (hi_18_2 h q) ev_27 (by omega) (by omega)) (by omega))⟩ (by omega) hw29 (lv_sub hl31 [0, 1, 2, 3] rfl)
  exact loop_16 (Int.toNat (v_13.toInt - (mi 2).toInt) + 1) (mi 2) (mf 1) _ _ _ ⟨(by show (mi 2).toInt ≤ (mi 2).toInt; omega), (by show (mi 2).toInt ≤ v_13.toInt; omega), (fun h q => q)⟩ (by omega) hw6 (lv_sub hl15 [0, 1, 2, 3] rfl)

set_option maxHeartbeats 4000000 in
set_option maxRecDepth 100000 in
theorem t_readAgainW (l : Launch) (D : va_G) (cI cJ : ClassId) (sz : Nat) (mr : Nat → Nat) (mi : Nat → Int32) (mf : Nat → Nat → Int32) (mg : Nat → Nat → Int64)  (ad av : Nat → Nat) (tf : Value) (h0 : 0 ≤ (mi 8).toInt ∧ (mi 8).toInt ≤ 400) (h1 : 0 ≤ (mi 10).toInt) (h2 : (mi 10).toInt ≤ (mi 8).toInt) (h3 : 0 ≤ (mi 9).toInt ∧ (mi 9).toInt ≤ 6) (h4 : 0 ≤ (mi 14).toInt ∧ (mi 14).toInt ≤ 4) (h5 : 0 ≤ (mi 5).toInt ∧ (mi 5).toInt ≤ 4) (h6 : 0 ≤ (mi 2).toInt) (h7 : (mi 2).toInt ≤ 157857660) (a_t_signs : b255 (mf 7)) (x_ri : RI (mf 3) (mf 4) ((mi 5).toInt).toNat (mi 2).toInt (157857660)) : Met l yX7_readAgain (Cond.code yX7_readAgain cX7_readAgain 3 none :: GW) ({ frames := 8, cells := 0, slots := 0, locals := 194 } : Room) (va_Pc [.ref (mr 0), .ref (mr 6)] (PW D cI cJ sz (WZ_RoundT cI cJ ad mr mi mf mg) (xT8 ad av tf (va_A (WZ_RoundT cI cJ ad mr mi mf mg) sz)))) (va_Qv (fun (u : Int32 × Int32 × Int32 × Int32 × Int32 × Int32 × (Nat → Int32) × (Nat → Int32) × Int32) => (0 ≤ u.1.toInt) ∧ (u.1.toInt ≤ (mi 8).toInt) ∧ (0 ≤ u.2.2.2.2.1.toInt) ∧ (u.2.2.2.2.1.toInt ≤ 4) ∧ (0 ≤ u.2.2.2.2.2.2.2.2.toInt) ∧ (u.2.2.2.2.2.2.2.2.toInt ≤ 4) ∧ (RI u.2.2.2.2.2.2.1 u.2.2.2.2.2.2.2.1 (u.2.2.2.2.2.2.2.2.toInt).toNat (mi 2).toInt (FX (mf 3) (mf 4) ((mi 5).toInt).toNat ((mi 2).toInt))) ∧ ((∀ h p : Int, (mi 14).toInt = 0 → (mi 11).toInt = 258 → TKS (ti (mi 9)) (mf 7) (mi 8).toInt p (mi 13).toInt (mi 10).toInt (mi 11).toInt (mi 12).toInt → IC (ti (mi 9)) (mf 7) (mi 8).toInt (itP (ti (mi 9)) (mf 7) (mi 8).toInt h ((mi 5).toInt).toNat p) ((mi 2).toInt, (stkL (mf 3) (mf 4) ((mi 5).toInt).toNat)) ((mi 2).toInt, (stkL u.2.2.2.2.2.2.1 u.2.2.2.2.2.2.2.1 (u.2.2.2.2.2.2.2.2.toInt).toNat)) u.2.2.2.2.1.toInt u.2.2.2.2.2.1.toInt u.1.toInt u.2.1.toInt u.2.2.1.toInt u.2.2.2.1.toInt))) (fun u => QW D cI cJ (va_A (WZ_RoundT cI cJ ad mr mi mf mg) sz) ((fun (u : Int32 × Int32 × Int32 × Int32 × Int32 × Int32 × (Nat → Int32) × (Nat → Int32) × Int32) => (WZ_RoundT cI cJ ad mr (upd (upd (upd (upd (upd (upd (upd mi 10 u.1) 13 u.2.1) 11 u.2.2.1) 12 u.2.2.2.1) 14 u.2.2.2.2.1) 15 u.2.2.2.2.2.1) 5 u.2.2.2.2.2.2.2.2) (va_up (va_up mf 3 u.2.2.2.2.2.2.1) 4 u.2.2.2.2.2.2.2.1) mg)) u)) (va_A (WZ_RoundT cI cJ ad mr mi mf mg) sz)) 0 0 (va_A (WZ_RoundT cI cJ ad mr mi mf mg) sz) := by
  refine mk_metA (X := fun A => xT8 ad av tf A) (y := yX7_readAgain) (bytes := cX7_readAgain) (maxL := 3) (avs := [.ref (mr 0), .ref (mr 6)]) (WS := (WZ_RoundT cI cJ ad mr mi mf mg)) (Qf := fun A => va_Qv (fun (u : Int32 × Int32 × Int32 × Int32 × Int32 × Int32 × (Nat → Int32) × (Nat → Int32) × Int32) => (0 ≤ u.1.toInt) ∧ (u.1.toInt ≤ (mi 8).toInt) ∧ (0 ≤ u.2.2.2.2.1.toInt) ∧ (u.2.2.2.2.1.toInt ≤ 4) ∧ (0 ≤ u.2.2.2.2.2.2.2.2.toInt) ∧ (u.2.2.2.2.2.2.2.2.toInt ≤ 4) ∧ (RI u.2.2.2.2.2.2.1 u.2.2.2.2.2.2.2.1 (u.2.2.2.2.2.2.2.2.toInt).toNat (mi 2).toInt (FX (mf 3) (mf 4) ((mi 5).toInt).toNat ((mi 2).toInt))) ∧ ((∀ h p : Int, (mi 14).toInt = 0 → (mi 11).toInt = 258 → TKS (ti (mi 9)) (mf 7) (mi 8).toInt p (mi 13).toInt (mi 10).toInt (mi 11).toInt (mi 12).toInt → IC (ti (mi 9)) (mf 7) (mi 8).toInt (itP (ti (mi 9)) (mf 7) (mi 8).toInt h ((mi 5).toInt).toNat p) ((mi 2).toInt, (stkL (mf 3) (mf 4) ((mi 5).toInt).toNat)) ((mi 2).toInt, (stkL u.2.2.2.2.2.2.1 u.2.2.2.2.2.2.2.1 (u.2.2.2.2.2.2.2.2.toInt).toNat)) u.2.2.2.2.1.toInt u.2.2.2.2.2.1.toInt u.1.toInt u.2.1.toInt u.2.2.1.toInt u.2.2.2.1.toInt))) (fun u => QW D cI cJ A ((fun (u : Int32 × Int32 × Int32 × Int32 × Int32 × Int32 × (Nat → Int32) × (Nat → Int32) × Int32) => (WZ_RoundT cI cJ ad mr (upd (upd (upd (upd (upd (upd (upd mi 10 u.1) 13 u.2.1) 11 u.2.2.1) 12 u.2.2.2.1) 14 u.2.2.2.2.1) 15 u.2.2.2.2.2.1) 5 u.2.2.2.2.2.2.2.2) (va_up (va_up mf 3 u.2.2.2.2.2.2.1) 4 u.2.2.2.2.2.2.2.1) mg)) u)) A) (by decide) (Nat.le_of_ble_eq_true rfl) ?_
  intro p e s m below meth c A ls E hr hlk hnm hX hw1 hl2
  have hl3 : lv_has ls 3 [(0, .ref (mr 0)), (1, .ref (mr 6))] := hl2
  refine lv_aload_n (pc := 0) E.1 E.2.1 dX7_readAgain_0 rfl (lv_at hl3 0 rfl) ?_
  refine x_get (pc := 1) (T := TX7) (N := 5) (ci := 7) (v := .int (mi 5)) E hw1 inX7 0 4 q_426 rfl rfl (by decide) rfl rfl dX7_readAgain_1 ?_
  refine lv_iconst (pc := 4) (v := 4) E.1 E.2.1 dX7_readAgain_4 (by decide +kernel) ?_
  refine lv_icmp_lt (pc := 5) (tgt := 13) E.1 E.2.1 dX7_readAgain_5 (by decide) (fun c_4 => ?_) (fun c_4 => ?_)
  · skip
    have hc_4 := ltE (a := (mi 5).toInt) (b := 4) rfl (by decide +kernel) c_4
    refine lv_aload_n (pc := 13) E.1 E.2.1 dX7_readAgain_13 rfl (lv_at hl3 1 rfl) ?_
    refine cq_v (pc := 14) (ws' := (fun (u : Int32 × Int32 × Int32 × Int32) => (WZ_RoundT cI cJ ad mr (upd (upd (upd (upd mi 10 u.1) 11 u.2.2.1) 12 u.2.2.2) 13 u.2.1) mf mg))) hw1 [4, 5] [0, 1, 2, 3] [0, 1, 2, 3, 4, 5] rfl rfl (by decide) (by decide) (fun _ => rfl) (by decide) (rn_V (As := []) (rest := []) E hw1 (t_stepW l D cI cJ _ (ixf [6, 7, 8, 9, 10, 11, 12, 13, 14, 15] mr) (ixf [6, 7, 8, 9, 10, 11, 12, 13, 14, 15] mi) (ixf [6, 7, 8, 9, 10, 11, 12, 13, 14, 15] mf) (ixf [6, 7, 8, 9, 10, 11, 12, 13, 14, 15] mg) ad av tf (by show 0 ≤ (mi 8).toInt ∧ (mi 8).toInt ≤ 400; omega) (by show 0 ≤ (mi 10).toInt; omega) (by show (mi 10).toInt ≤ (mi 8).toInt; omega) (by show 0 ≤ (mi 9).toInt ∧ (mi 9).toInt ≤ 6; omega) a_t_signs) (gdV q_941 q_723 q_724 q_160 q_725) hdV_X8_step ⟨rfl, rfl⟩ ⟨(Nat.le_of_ble_eq_true rfl), (Nat.le_of_ble_eq_true rfl)⟩ ⟨(Nat.le_of_ble_eq_true rfl), (Nat.le_of_ble_eq_true rfl)⟩ xT8_b (xT8_at hX hw1.2.2.1 (va_free hw1.2.1 hw1.2.2.1 hw1.2.2.2 [4, 5] rfl)) 4 8 rfl rfl rfl [4, 5] rfl (by decide) rfl hl3.1 rfl (Nat.le_of_ble_eq_true rfl) dX7_readAgain_14) (fun u_5 H1 locs hp hw7 => ?_)
    obtain ⟨nat_8, nplace_9, nkind_10, nvalue_11⟩ := u_5
    generalize H1 = H at hw7 ⊢
    have hw12 : WD D A s.heap (WZ_RoundT cI cJ ad mr (upd (upd (upd (upd mi 10 nat_8) 11 nkind_10) 12 nvalue_11) 13 nplace_9) mf mg) H locs := hw7
    obtain ⟨hp_13, hp_14, hp_15⟩ := hp
    have hp_13 : 0 ≤ nat_8.toInt := hp_13
    have hp_14 : nat_8.toInt ≤ (mi 8).toInt := hp_14
    have hp_15 : (((mi 14).toInt ≠ 0 → nplace_9.toInt = (mi 13).toInt ∧ nat_8.toInt = (mi 10).toInt ∧ nkind_10.toInt = (mi 11).toInt ∧ nvalue_11.toInt = (mi 12).toInt) ∧ ((mi 14).toInt = 0 → TKS (ti (mi 9)) (mf 7) (mi 8).toInt (mi 10).toInt nplace_9.toInt nat_8.toInt nkind_10.toInt nvalue_11.toInt)) := hp_15
    refine lv_aload_n (pc := 17) E.1 E.2.1 dX7_readAgain_17 rfl (lv_at hl3 1 rfl) ?_
    refine lv_iconst (pc := 18) (v := 1) E.1 E.2.1 dX7_readAgain_18 (by decide +kernel) ?_
    refine lv_bipush (pc := 19) (v := 9) E.1 E.2.1 dX7_readAgain_19 (by decide +kernel) ?_
    refine cq_i (pc := 21) (ws' := (fun (u : Int32 × Int32 × Int32 × Int32 × Int32 × Int32) => (WZ_RoundT cI cJ ad mr (upd (upd (upd (upd (upd (upd mi 10 u.1) 11 u.2.2.1) 12 u.2.2.2.1) 13 u.2.1) 14 u.2.2.2.2.1) 15 u.2.2.2.2.2) mf mg))) hw12 [4, 5] [0, 1, 2, 3] [0, 1, 2, 3, 4, 5] rfl rfl (by decide) (by decide) (fun _ => rfl) (by decide) (rn_V (As := [.int 1, .int 9]) (rest := []) E hw12 (t_numberAW l D cI cJ _ (ixf [6, 7, 8, 9, 10, 11, 12, 13, 14, 15] mr) (ixf [6, 7, 8, 9, 10, 11, 12, 13, 14, 15] (upd (upd (upd (upd mi 10 nat_8) 11 nkind_10) 12 nvalue_11) 13 nplace_9)) (ixf [6, 7, 8, 9, 10, 11, 12, 13, 14, 15] mf) (ixf [6, 7, 8, 9, 10, 11, 12, 13, 14, 15] mg) 1 9 ad av tf (by show 0 ≤ (mi 8).toInt ∧ (mi 8).toInt ≤ 400; omega) (by show 0 ≤ nat_8.toInt; omega) (by show nat_8.toInt ≤ (mi 8).toInt; omega) (by show 0 ≤ (mi 9).toInt ∧ (mi 9).toInt ≤ 6; omega) (by show 0 ≤ (mi 14).toInt ∧ (mi 14).toInt ≤ 4; omega) (by show (1 : Int32).toInt ≤ (9 : Int32).toInt; have k_0 : (1 : Int32).toInt = 1 := (by decide +kernel); have k_1 : (9 : Int32).toInt = 9 := (by decide +kernel); omega) a_t_signs) (gdV q_942 q_879 q_880 q_160 q_881) hdV_X8_number ⟨rfl, rfl⟩ ⟨(Nat.le_of_ble_eq_true rfl), (Nat.le_of_ble_eq_true rfl)⟩ ⟨(Nat.le_of_ble_eq_true rfl), (Nat.le_of_ble_eq_true rfl)⟩ xT8_b (xT8_at hX hw12.2.2.1 (va_free hw12.2.1 hw12.2.2.1 hw12.2.2.2 [4, 5] rfl)) 4 8 rfl rfl rfl [4, 5] rfl (by decide) rfl hl3.1 rfl (Nat.le_of_ble_eq_true rfl) dX7_readAgain_21) (fun r_17 u_16 H1 locs hp hw18 => ?_)
    obtain ⟨nat_19, nplace_20, nkind_21, nvalue_22, nfault_23, nfaultPlace_24⟩ := u_16
    generalize H1 = H at hw18 ⊢
    have hw25 : WD D A s.heap (WZ_RoundT cI cJ ad mr (upd (upd (upd (upd (upd (upd mi 10 nat_19) 11 nkind_21) 12 nvalue_22) 13 nplace_20) 14 nfault_23) 15 nfaultPlace_24) mf mg) H locs := hw18
    obtain ⟨hp_26, hp_27, hp_28, hp_29, hp_30, hp_31, hp_32⟩ := hp
    have hp_26 : 0 ≤ nat_19.toInt := hp_26
    have hp_27 : nat_19.toInt ≤ (mi 8).toInt := hp_27
    have hp_28 : 0 ≤ nfault_23.toInt := hp_28
    have hp_29 : nfault_23.toInt ≤ 4 := hp_29
    have hp_30 : (1 : Int32).toInt ≤ r_17.toInt := hp_30
    rw [show (1 : Int32).toInt = 1 from by decide +kernel] at hp_30
    have hp_31 : r_17.toInt ≤ (9 : Int32).toInt := hp_31
    rw [show (9 : Int32).toInt = 9 from by decide +kernel] at hp_31
    have hp_32 : (∀ s : Except (Int × Int) Int, CS (ti (mi 9)) (mf 7) (mi 8).toInt s (mi 14).toInt (mi 15).toInt nat_8.toInt nplace_9.toInt nkind_10.toInt nvalue_11.toInt → NS (ti (mi 9)) (mf 7) (mi 8).toInt (s.bind (numP (ti (mi 9)) (mf 7) (mi 8).toInt (1 : Int32).toInt (9 : Int32).toInt)) (r_17 : Int32).toInt nfault_23.toInt nfaultPlace_24.toInt nat_19.toInt nplace_20.toInt nkind_21.toInt nvalue_22.toInt) := hp_32
    refine lv_istore_n (pc := 24) (lv' := [(2, .int r_17), (0, .ref (mr 0)), (1, .ref (mr 6))]) E.1 E.2.1 dX7_readAgain_24 rfl hl3 (by decide) rfl (fun ls hl33 => ?_)
    refine lv_aload_n (pc := 25) E.1 E.2.1 dX7_readAgain_25 rfl (lv_at hl33 2 rfl) ?_
    refine lv_bipush (pc := 26) (v := 40) E.1 E.2.1 dX7_readAgain_26 (by decide +kernel) ?_
    refine cq_v (pc := 28) (ws' := (fun (u : Int32 × Int32 × Int32 × Int32 × Int32 × Int32) => (WZ_RoundT cI cJ ad mr (upd (upd (upd (upd (upd (upd mi 10 u.1) 11 u.2.2.1) 12 u.2.2.2.1) 13 u.2.1) 14 u.2.2.2.2.1) 15 u.2.2.2.2.2) mf mg))) hw25 [4, 5] [0, 1, 2, 3] [0, 1, 2, 3, 4, 5] rfl rfl (by decide) (by decide) (fun _ => rfl) (by decide) (rn_V (As := [.int 40]) (rest := []) E hw25 (t_passW l D cI cJ _ (ixf [6, 7, 8, 9, 10, 11, 12, 13, 14, 15] mr) (ixf [6, 7, 8, 9, 10, 11, 12, 13, 14, 15] (upd (upd (upd (upd (upd (upd mi 10 nat_19) 11 nkind_21) 12 nvalue_22) 13 nplace_20) 14 nfault_23) 15 nfaultPlace_24)) (ixf [6, 7, 8, 9, 10, 11, 12, 13, 14, 15] mf) (ixf [6, 7, 8, 9, 10, 11, 12, 13, 14, 15] mg) 40 ad av tf (by show 0 ≤ (mi 8).toInt ∧ (mi 8).toInt ≤ 400; omega) (by show 0 ≤ nat_19.toInt; omega) (by show nat_19.toInt ≤ (mi 8).toInt; omega) (by show 0 ≤ (mi 9).toInt ∧ (mi 9).toInt ≤ 6; omega) (by show 0 ≤ nfault_23.toInt ∧ nfault_23.toInt ≤ 4; omega) a_t_signs) (gdV q_943 q_861 q_862 q_160 q_863) hdV_X8_pass ⟨rfl, rfl⟩ ⟨(Nat.le_of_ble_eq_true rfl), (Nat.le_of_ble_eq_true rfl)⟩ ⟨(Nat.le_of_ble_eq_true rfl), (Nat.le_of_ble_eq_true rfl)⟩ xT8_b (xT8_at hX hw25.2.2.1 (va_free hw25.2.1 hw25.2.2.1 hw25.2.2.2 [4, 5] rfl)) 4 8 rfl rfl rfl [4, 5] rfl (by decide) rfl hl33.1 rfl (Nat.le_of_ble_eq_true rfl) dX7_readAgain_28) (fun u_34 H1 locs hp hw36 => ?_)
    obtain ⟨nat_37, nplace_38, nkind_39, nvalue_40, nfault_41, nfaultPlace_42⟩ := u_34
    generalize H1 = H at hw36 ⊢
    have hw43 : WD D A s.heap (WZ_RoundT cI cJ ad mr (upd (upd (upd (upd (upd (upd mi 10 nat_37) 11 nkind_39) 12 nvalue_40) 13 nplace_38) 14 nfault_41) 15 nfaultPlace_42) mf mg) H locs := hw36
    obtain ⟨hp_44, hp_45, hp_46, hp_47, hp_48⟩ := hp
    have hp_44 : 0 ≤ nat_37.toInt := hp_44
    have hp_45 : nat_37.toInt ≤ (mi 8).toInt := hp_45
    have hp_46 : 0 ≤ nfault_41.toInt := hp_46
    have hp_47 : nfault_41.toInt ≤ 4 := hp_47
    have hp_48 : (∀ s : Except (Int × Int) Int, CS (ti (mi 9)) (mf 7) (mi 8).toInt s nfault_23.toInt nfaultPlace_24.toInt nat_19.toInt nplace_20.toInt nkind_21.toInt nvalue_22.toInt → CS (ti (mi 9)) (mf 7) (mi 8).toInt (s.bind (passP (ti (mi 9)) (mf 7) (mi 8).toInt (40 : Int32).toInt)) nfault_41.toInt nfaultPlace_42.toInt nat_37.toInt nplace_38.toInt nkind_39.toInt nvalue_40.toInt) := hp_48
    refine lv_aload_n (pc := 31) E.1 E.2.1 dX7_readAgain_31 rfl (lv_at hl33 2 rfl) ?_
    refine x_get (pc := 32) (T := TX8) (N := 9) (ci := 8) (v := .int nfault_41) E hw43 inX8 4 7 q_552 rfl rfl (by decide) rfl rfl dX7_readAgain_32 ?_
    refine lv_if_ne (pc := 35) (tgt := 79) E.1 E.2.1 dX7_readAgain_35 (by decide) (fun c_49 => ?_) (fun c_49 => ?_)
    · skip
      have hc_49 := neE (a := nfault_41.toInt) (b := 0) rfl (by decide +kernel) c_49
      exact em_v (w1 := (fun (u : Int32 × Int32 × Int32 × Int32 × Int32 × Int32 × (Nat → Int32) × (Nat → Int32) × Int32) => (WZ_RoundT cI cJ ad mr (upd (upd (upd (upd (upd (upd (upd mi 10 u.1) 13 u.2.1) 11 u.2.2.1) 12 u.2.2.2.1) 14 u.2.2.2.2.1) 15 u.2.2.2.2.2.1) 5 u.2.2.2.2.2.2.2.2) (va_up (va_up mf 3 u.2.2.2.2.2.2.1) 4 u.2.2.2.2.2.2.2.1) mg))) E hr hlk (nat_37, nplace_38, nkind_39, nvalue_40, nfault_41, nfaultPlace_42, (mf 3), (mf 4), (mi 5)) hw43 ⟨(by show 0 ≤ nat_37.toInt; omega), (by show nat_37.toInt ≤ (mi 8).toInt; omega), (by show 0 ≤ nfault_41.toInt; omega), (by show nfault_41.toInt ≤ 4; omega), (by show 0 ≤ (mi 5).toInt; omega), (by show (mi 5).toInt ≤ 4; omega), (show RI (mf 3) (mf 4) ((mi 5).toInt).toNat (mi 2).toInt (FX (mf 3) (mf 4) ((mi 5).toInt).toNat ((mi 2).toInt)) from ⟨x_ri.1, Int.le_refl _⟩), (show (∀ h p : Int, (mi 14).toInt = 0 → (mi 11).toInt = 258 → TKS (ti (mi 9)) (mf 7) (mi 8).toInt p (mi 13).toInt (mi 10).toInt (mi 11).toInt (mi 12).toInt → IC (ti (mi 9)) (mf 7) (mi 8).toInt (itP (ti (mi 9)) (mf 7) (mi 8).toInt h ((mi 5).toInt).toNat p) ((mi 2).toInt, (stkL (mf 3) (mf 4) ((mi 5).toInt).toNat)) ((mi 2).toInt, (stkL (mf 3) (mf 4) ((mi 5).toInt).toNat)) nfault_41.toInt nfaultPlace_42.toInt nat_37.toInt nplace_38.toInt nkind_39.toInt nvalue_40.toInt) from (fun h p hf hk hp => IC_again hk hf (by omega) hp_15.2 hp_32 hp_48 (fun y => absurd y (by omega)) p hp))⟩ (Nat.le_of_ble_eq_true rfl) (Nat.le_of_ble_eq_true rfl) dX7_readAgain_79
    · skip
      have hc_49 := eqE (a := nfault_41.toInt) (b := 0) rfl (by decide +kernel) c_49
      refine lv_aload_n (pc := 38) E.1 E.2.1 dX7_readAgain_38 rfl (lv_at hl33 1 rfl) ?_
      refine x_get (pc := 39) (T := TX7) (N := 5) (ci := 7) (v := .int (mi 5)) E hw43 inX7 0 4 q_426 rfl rfl (by decide) rfl rfl dX7_readAgain_39 ?_
      refine lv_iconst (pc := 42) (v := 4) E.1 E.2.1 dX7_readAgain_42 (by decide +kernel) ?_
      refine lv_icmp_ge (pc := 43) (tgt := 79) E.1 E.2.1 dX7_readAgain_43 (by decide) (fun c_50 => absurd c_50 (mnleE (a := 4) (b := (mi 5).toInt) (by decide +kernel) rfl (by omega))) (fun _ => ?_)
      refine lv_aload_n (pc := 46) E.1 E.2.1 dX7_readAgain_46 rfl (lv_at hl33 1 rfl) ?_
      refine x_get (pc := 47) (T := TX7) (N := 5) (ci := 7) (v := .ref (mr 3)) E hw43 inX7 0 2 q_424 rfl rfl (by decide) rfl rfl dX7_readAgain_47 ?_
      refine lv_aload_n (pc := 50) E.1 E.2.1 dX7_readAgain_50 rfl (lv_at hl33 1 rfl) ?_
      refine x_get (pc := 51) (T := TX7) (N := 5) (ci := 7) (v := .int (mi 5)) E hw43 inX7 0 4 q_426 rfl rfl (by decide) rfl rfl dX7_readAgain_51 ?_
      refine lv_aload_n (pc := 54) E.1 E.2.1 dX7_readAgain_54 rfl (lv_at hl33 1 rfl) ?_
      refine x_get (pc := 55) (T := TX7) (N := 5) (ci := 7) (v := .int (mi 2)) E hw43 inX7 0 1 q_421 rfl rfl (by decide) rfl rfl dX7_readAgain_55 ?_
      refine x_iastG (pc := 58) (f := (mf 3)) (wf := fun g => (WZ_RoundT cI cJ ad mr (upd (upd (upd (upd (upd (upd mi 10 nat_37) 11 nkind_39) 12 nvalue_40) 13 nplace_38) 14 nfault_41) 15 nfaultPlace_42) (va_up mf 3 g) mg)) E hw43 2 rfl (inbE (a := (mi 5).toInt) rfl (by omega)) (fun _ => rfl) dX7_readAgain_58 (fun g_51 H locs eg_51 hw52 => ?_)
      refine lv_aload_n (pc := 59) E.1 E.2.1 dX7_readAgain_59 rfl (lv_at hl33 1 rfl) ?_
      refine x_get (pc := 60) (T := TX7) (N := 5) (ci := 7) (v := .ref (mr 4)) E hw52 inX7 0 3 q_425 rfl rfl (by decide) rfl rfl dX7_readAgain_60 ?_
      refine lv_aload_n (pc := 63) E.1 E.2.1 dX7_readAgain_63 rfl (lv_at hl33 1 rfl) ?_
      refine x_get (pc := 64) (T := TX7) (N := 5) (ci := 7) (v := .int (mi 5)) E hw52 inX7 0 4 q_426 rfl rfl (by decide) rfl rfl dX7_readAgain_64 ?_
      refine lv_iload_n (pc := 67) E.1 E.2.1 dX7_readAgain_67 rfl (lv_at hl33 0 rfl) ?_
      refine x_iastG (pc := 68) (f := (mf 4)) (wf := fun g => (WZ_RoundT cI cJ ad mr (upd (upd (upd (upd (upd (upd mi 10 nat_37) 11 nkind_39) 12 nvalue_40) 13 nplace_38) 14 nfault_41) 15 nfaultPlace_42) (va_up (va_up mf 3 g_51) 4 g) mg)) E hw52 3 rfl (inbE (a := (mi 5).toInt) rfl (by omega)) (fun _ => rfl) dX7_readAgain_68 (fun g_53 H locs eg_53 hw54 => ?_)
      refine lv_aload_n (pc := 69) E.1 E.2.1 dX7_readAgain_69 rfl (lv_at hl33 1 rfl) ?_
      refine lv_dup (pc := 70) E.1 E.2.1 dX7_readAgain_70 rfl ?_
      refine x_get (pc := 71) (T := TX7) (N := 5) (ci := 7) (v := .int (mi 5)) E hw54 inX7 0 4 q_426 rfl rfl (by decide) rfl rfl dX7_readAgain_71 ?_
      refine lv_iconst (pc := 74) (v := 1) E.1 E.2.1 dX7_readAgain_74 (by decide +kernel) ?_
      refine lv_iadd (pc := 75) E.1 E.2.1 dX7_readAgain_75 ?_
      refine lv_topi (fun v_55 ev_55 => ?_)
      have hv_55 : v_55.toInt = (mi 5).toInt + 1 := by rw [ev_55]; exact addE rfl (by decide +kernel) (by omega)
      refine x_put (pc := 76) (T := TX7) (N := 5) (ci := 7) (ws' := (WZ_RoundT cI cJ ad mr (upd (upd (upd (upd (upd (upd (upd mi 5 v_55) 10 nat_37) 11 nkind_39) 12 nvalue_40) 13 nplace_38) 14 nfault_41) 15 nfaultPlace_42) (va_up (va_up mf 3 g_51) 4 g_53) mg)) E hw54 inX7 tyX7_ok nmX7 0 4 q_426 rfl rfl (by decide) rfl rfl rfl rfl (Nat.le_of_ble_eq_true rfl) rfl dX7_readAgain_76 (fun H locs hw56 => ?_)
      exact em_v (w1 := (fun (u : Int32 × Int32 × Int32 × Int32 × Int32 × Int32 × (Nat → Int32) × (Nat → Int32) × Int32) => (WZ_RoundT cI cJ ad mr (upd (upd (upd (upd (upd (upd (upd mi 10 u.1) 13 u.2.1) 11 u.2.2.1) 12 u.2.2.2.1) 14 u.2.2.2.2.1) 15 u.2.2.2.2.2.1) 5 u.2.2.2.2.2.2.2.2) (va_up (va_up mf 3 u.2.2.2.2.2.2.1) 4 u.2.2.2.2.2.2.2.1) mg))) E hr hlk (nat_37, nplace_38, nkind_39, nvalue_40, nfault_41, nfaultPlace_42, g_51, g_53, v_55) hw56 ⟨(by show 0 ≤ nat_37.toInt; omega), (by show nat_37.toInt ≤ (mi 8).toInt; omega), (by show 0 ≤ nfault_41.toInt; omega), (by show nfault_41.toInt ≤ 4; omega), (by show 0 ≤ v_55.toInt; omega), (by show v_55.toInt ≤ 4; omega), (show RI g_51 g_53 (v_55.toInt).toNat (mi 2).toInt (FX (mf 3) (mf 4) ((mi 5).toInt).toNat ((mi 2).toInt)) from (RI_open (o := ((mi 5).toInt).toNat) ⟨x_ri.1, Int.le_refl _⟩ (by omega) eg_51 eg_53 (by omega) (by omega) (by omega) (by omega) (by omega))), (show (∀ h p : Int, (mi 14).toInt = 0 → (mi 11).toInt = 258 → TKS (ti (mi 9)) (mf 7) (mi 8).toInt p (mi 13).toInt (mi 10).toInt (mi 11).toInt (mi 12).toInt → IC (ti (mi 9)) (mf 7) (mi 8).toInt (itP (ti (mi 9)) (mf 7) (mi 8).toInt h ((mi 5).toInt).toNat p) ((mi 2).toInt, (stkL (mf 3) (mf 4) ((mi 5).toInt).toNat)) ((mi 2).toInt, (stkL g_51 g_53 (v_55.toInt).toNat)) nfault_41.toInt nfaultPlace_42.toInt nat_37.toInt nplace_38.toInt nkind_39.toInt nvalue_40.toInt) from (fun h p hf hk hp => IC_again hk hf (by omega) hp_15.2 hp_32 hp_48 (fun _ => rst_push (o := ((mi 5).toInt).toNat) eg_51 eg_53 (by omega) (by omega) rfl rfl rfl (by omega)) p hp))⟩ (Nat.le_of_ble_eq_true rfl) (Nat.le_of_ble_eq_true rfl) dX7_readAgain_79
  · skip
    have hc_4 := nltE (a := (mi 5).toInt) (b := 4) rfl (by decide +kernel) c_4
    refine lv_aload_n (pc := 8) E.1 E.2.1 dX7_readAgain_8 rfl (lv_at hl3 1 rfl) ?_
    refine lv_iconst (pc := 9) (v := 3) E.1 E.2.1 dX7_readAgain_9 (by decide +kernel) ?_
    refine cq_v (pc := 10) (ws' := (fun (u : Int32 × Int32) => (WZ_RoundT cI cJ ad mr (upd (upd mi 14 u.1) 15 u.2) mf mg))) hw1 [4, 5] [0, 1, 2, 3] [0, 1, 2, 3, 4, 5] rfl rfl (by decide) (by decide) (fun _ => rfl) (by decide) (rn_V (As := [.int 3]) (rest := []) E hw1 (t_refuseW l D cI cJ _ (ixf [6, 7, 8, 9, 10, 11, 12, 13, 14, 15] mr) (ixf [6, 7, 8, 9, 10, 11, 12, 13, 14, 15] mi) (ixf [6, 7, 8, 9, 10, 11, 12, 13, 14, 15] mf) (ixf [6, 7, 8, 9, 10, 11, 12, 13, 14, 15] mg) 3 ad (by show 1 ≤ (3 : Int32).toInt ∧ (3 : Int32).toInt ≤ 4; have k_0 : (3 : Int32).toInt = 3 := (by decide +kernel); omega) (by show 0 ≤ (mi 14).toInt ∧ (mi 14).toInt ≤ 4; omega)) (gdV q_952 q_857 q_858 q_160 q_859) hdV_X8_refuse ⟨rfl, rfl⟩ ⟨(Nat.le_of_ble_eq_true rfl), (Nat.le_of_ble_eq_true rfl)⟩ ⟨(Nat.le_of_ble_eq_true rfl), (Nat.le_of_ble_eq_true rfl)⟩ xT_b xT_at 4 8 rfl rfl rfl [4, 5] rfl (by decide) rfl hl3.1 rfl (Nat.le_of_ble_eq_true rfl) dX7_readAgain_10) (fun u_57 H1 locs hp hw59 => ?_)
    obtain ⟨nfault_60, nfaultPlace_61⟩ := u_57
    generalize H1 = H at hw59 ⊢
    have hw62 : WD D A s.heap (WZ_RoundT cI cJ ad mr (upd (upd mi 14 nfault_60) 15 nfaultPlace_61) mf mg) H locs := hw59
    obtain ⟨hp_63, hp_64, hp_65⟩ := hp
    have hp_63 : 1 ≤ nfault_60.toInt := hp_63
    have hp_64 : nfault_60.toInt ≤ 4 := hp_64
    have hp_65 : (((mi 14).toInt ≠ 0 → nfault_60.toInt = (mi 14).toInt ∧ nfaultPlace_61.toInt = (mi 15).toInt) ∧ ((mi 14).toInt = 0 → nfault_60.toInt = (3 : Int32).toInt ∧ nfaultPlace_61.toInt = (mi 13).toInt)) := hp_65
    refine lv_aload_n (pc := 13) E.1 E.2.1 dX7_readAgain_13 rfl (lv_at hl3 1 rfl) ?_
    refine cq_v (pc := 14) (ws' := (fun (u : Int32 × Int32 × Int32 × Int32) => (WZ_RoundT cI cJ ad mr (upd (upd (upd (upd (upd (upd mi 10 u.1) 11 u.2.2.1) 12 u.2.2.2) 13 u.2.1) 14 nfault_60) 15 nfaultPlace_61) mf mg))) hw62 [4, 5] [0, 1, 2, 3] [0, 1, 2, 3, 4, 5] rfl rfl (by decide) (by decide) (fun _ => rfl) (by decide) (rn_V (As := []) (rest := []) E hw62 (t_stepW l D cI cJ _ (ixf [6, 7, 8, 9, 10, 11, 12, 13, 14, 15] mr) (ixf [6, 7, 8, 9, 10, 11, 12, 13, 14, 15] (upd (upd mi 14 nfault_60) 15 nfaultPlace_61)) (ixf [6, 7, 8, 9, 10, 11, 12, 13, 14, 15] mf) (ixf [6, 7, 8, 9, 10, 11, 12, 13, 14, 15] mg) ad av tf (by show 0 ≤ (mi 8).toInt ∧ (mi 8).toInt ≤ 400; omega) (by show 0 ≤ (mi 10).toInt; omega) (by show (mi 10).toInt ≤ (mi 8).toInt; omega) (by show 0 ≤ (mi 9).toInt ∧ (mi 9).toInt ≤ 6; omega) a_t_signs) (gdV q_941 q_723 q_724 q_160 q_725) hdV_X8_step ⟨rfl, rfl⟩ ⟨(Nat.le_of_ble_eq_true rfl), (Nat.le_of_ble_eq_true rfl)⟩ ⟨(Nat.le_of_ble_eq_true rfl), (Nat.le_of_ble_eq_true rfl)⟩ xT8_b (xT8_at hX hw62.2.2.1 (va_free hw62.2.1 hw62.2.2.1 hw62.2.2.2 [4, 5] rfl)) 4 8 rfl rfl rfl [4, 5] rfl (by decide) rfl hl3.1 rfl (Nat.le_of_ble_eq_true rfl) dX7_readAgain_14) (fun u_66 H1 locs hp hw68 => ?_)
    obtain ⟨nat_69, nplace_70, nkind_71, nvalue_72⟩ := u_66
    generalize H1 = H at hw68 ⊢
    have hw73 : WD D A s.heap (WZ_RoundT cI cJ ad mr (upd (upd (upd (upd (upd (upd mi 10 nat_69) 11 nkind_71) 12 nvalue_72) 13 nplace_70) 14 nfault_60) 15 nfaultPlace_61) mf mg) H locs := hw68
    obtain ⟨hp_74, hp_75, hp_76⟩ := hp
    have hp_74 : 0 ≤ nat_69.toInt := hp_74
    have hp_75 : nat_69.toInt ≤ (mi 8).toInt := hp_75
    have hp_76 : ((nfault_60.toInt ≠ 0 → nplace_70.toInt = (mi 13).toInt ∧ nat_69.toInt = (mi 10).toInt ∧ nkind_71.toInt = (mi 11).toInt ∧ nvalue_72.toInt = (mi 12).toInt) ∧ (nfault_60.toInt = 0 → TKS (ti (mi 9)) (mf 7) (mi 8).toInt (mi 10).toInt nplace_70.toInt nat_69.toInt nkind_71.toInt nvalue_72.toInt)) := hp_76
    refine lv_aload_n (pc := 17) E.1 E.2.1 dX7_readAgain_17 rfl (lv_at hl3 1 rfl) ?_
    refine lv_iconst (pc := 18) (v := 1) E.1 E.2.1 dX7_readAgain_18 (by decide +kernel) ?_
    refine lv_bipush (pc := 19) (v := 9) E.1 E.2.1 dX7_readAgain_19 (by decide +kernel) ?_
    refine cq_i (pc := 21) (ws' := (fun (u : Int32 × Int32 × Int32 × Int32 × Int32 × Int32) => (WZ_RoundT cI cJ ad mr (upd (upd (upd (upd (upd (upd mi 10 u.1) 11 u.2.2.1) 12 u.2.2.2.1) 13 u.2.1) 14 u.2.2.2.2.1) 15 u.2.2.2.2.2) mf mg))) hw73 [4, 5] [0, 1, 2, 3] [0, 1, 2, 3, 4, 5] rfl rfl (by decide) (by decide) (fun _ => rfl) (by decide) (rn_V (As := [.int 1, .int 9]) (rest := []) E hw73 (t_numberAW l D cI cJ _ (ixf [6, 7, 8, 9, 10, 11, 12, 13, 14, 15] mr) (ixf [6, 7, 8, 9, 10, 11, 12, 13, 14, 15] (upd (upd (upd (upd (upd (upd mi 10 nat_69) 11 nkind_71) 12 nvalue_72) 13 nplace_70) 14 nfault_60) 15 nfaultPlace_61)) (ixf [6, 7, 8, 9, 10, 11, 12, 13, 14, 15] mf) (ixf [6, 7, 8, 9, 10, 11, 12, 13, 14, 15] mg) 1 9 ad av tf (by show 0 ≤ (mi 8).toInt ∧ (mi 8).toInt ≤ 400; omega) (by show 0 ≤ nat_69.toInt; omega) (by show nat_69.toInt ≤ (mi 8).toInt; omega) (by show 0 ≤ (mi 9).toInt ∧ (mi 9).toInt ≤ 6; omega) (by show 0 ≤ nfault_60.toInt ∧ nfault_60.toInt ≤ 4; omega) (by show (1 : Int32).toInt ≤ (9 : Int32).toInt; have k_0 : (1 : Int32).toInt = 1 := (by decide +kernel); have k_1 : (9 : Int32).toInt = 9 := (by decide +kernel); omega) a_t_signs) (gdV q_942 q_879 q_880 q_160 q_881) hdV_X8_number ⟨rfl, rfl⟩ ⟨(Nat.le_of_ble_eq_true rfl), (Nat.le_of_ble_eq_true rfl)⟩ ⟨(Nat.le_of_ble_eq_true rfl), (Nat.le_of_ble_eq_true rfl)⟩ xT8_b (xT8_at hX hw73.2.2.1 (va_free hw73.2.1 hw73.2.2.1 hw73.2.2.2 [4, 5] rfl)) 4 8 rfl rfl rfl [4, 5] rfl (by decide) rfl hl3.1 rfl (Nat.le_of_ble_eq_true rfl) dX7_readAgain_21) (fun r_78 u_77 H1 locs hp hw79 => ?_)
    obtain ⟨nat_80, nplace_81, nkind_82, nvalue_83, nfault_84, nfaultPlace_85⟩ := u_77
    generalize H1 = H at hw79 ⊢
    have hw86 : WD D A s.heap (WZ_RoundT cI cJ ad mr (upd (upd (upd (upd (upd (upd mi 10 nat_80) 11 nkind_82) 12 nvalue_83) 13 nplace_81) 14 nfault_84) 15 nfaultPlace_85) mf mg) H locs := hw79
    obtain ⟨hp_87, hp_88, hp_89, hp_90, hp_91, hp_92, hp_93⟩ := hp
    have hp_87 : 0 ≤ nat_80.toInt := hp_87
    have hp_88 : nat_80.toInt ≤ (mi 8).toInt := hp_88
    have hp_89 : 0 ≤ nfault_84.toInt := hp_89
    have hp_90 : nfault_84.toInt ≤ 4 := hp_90
    have hp_91 : (1 : Int32).toInt ≤ r_78.toInt := hp_91
    rw [show (1 : Int32).toInt = 1 from by decide +kernel] at hp_91
    have hp_92 : r_78.toInt ≤ (9 : Int32).toInt := hp_92
    rw [show (9 : Int32).toInt = 9 from by decide +kernel] at hp_92
    have hp_93 : (∀ s : Except (Int × Int) Int, CS (ti (mi 9)) (mf 7) (mi 8).toInt s nfault_60.toInt nfaultPlace_61.toInt nat_69.toInt nplace_70.toInt nkind_71.toInt nvalue_72.toInt → NS (ti (mi 9)) (mf 7) (mi 8).toInt (s.bind (numP (ti (mi 9)) (mf 7) (mi 8).toInt (1 : Int32).toInt (9 : Int32).toInt)) (r_78 : Int32).toInt nfault_84.toInt nfaultPlace_85.toInt nat_80.toInt nplace_81.toInt nkind_82.toInt nvalue_83.toInt) := hp_93
    refine lv_istore_n (pc := 24) (lv' := [(2, .int r_78), (0, .ref (mr 0)), (1, .ref (mr 6))]) E.1 E.2.1 dX7_readAgain_24 rfl hl3 (by decide) rfl (fun ls hl94 => ?_)
    refine lv_aload_n (pc := 25) E.1 E.2.1 dX7_readAgain_25 rfl (lv_at hl94 2 rfl) ?_
    refine lv_bipush (pc := 26) (v := 40) E.1 E.2.1 dX7_readAgain_26 (by decide +kernel) ?_
    refine cq_v (pc := 28) (ws' := (fun (u : Int32 × Int32 × Int32 × Int32 × Int32 × Int32) => (WZ_RoundT cI cJ ad mr (upd (upd (upd (upd (upd (upd mi 10 u.1) 11 u.2.2.1) 12 u.2.2.2.1) 13 u.2.1) 14 u.2.2.2.2.1) 15 u.2.2.2.2.2) mf mg))) hw86 [4, 5] [0, 1, 2, 3] [0, 1, 2, 3, 4, 5] rfl rfl (by decide) (by decide) (fun _ => rfl) (by decide) (rn_V (As := [.int 40]) (rest := []) E hw86 (t_passW l D cI cJ _ (ixf [6, 7, 8, 9, 10, 11, 12, 13, 14, 15] mr) (ixf [6, 7, 8, 9, 10, 11, 12, 13, 14, 15] (upd (upd (upd (upd (upd (upd mi 10 nat_80) 11 nkind_82) 12 nvalue_83) 13 nplace_81) 14 nfault_84) 15 nfaultPlace_85)) (ixf [6, 7, 8, 9, 10, 11, 12, 13, 14, 15] mf) (ixf [6, 7, 8, 9, 10, 11, 12, 13, 14, 15] mg) 40 ad av tf (by show 0 ≤ (mi 8).toInt ∧ (mi 8).toInt ≤ 400; omega) (by show 0 ≤ nat_80.toInt; omega) (by show nat_80.toInt ≤ (mi 8).toInt; omega) (by show 0 ≤ (mi 9).toInt ∧ (mi 9).toInt ≤ 6; omega) (by show 0 ≤ nfault_84.toInt ∧ nfault_84.toInt ≤ 4; omega) a_t_signs) (gdV q_943 q_861 q_862 q_160 q_863) hdV_X8_pass ⟨rfl, rfl⟩ ⟨(Nat.le_of_ble_eq_true rfl), (Nat.le_of_ble_eq_true rfl)⟩ ⟨(Nat.le_of_ble_eq_true rfl), (Nat.le_of_ble_eq_true rfl)⟩ xT8_b (xT8_at hX hw86.2.2.1 (va_free hw86.2.1 hw86.2.2.1 hw86.2.2.2 [4, 5] rfl)) 4 8 rfl rfl rfl [4, 5] rfl (by decide) rfl hl94.1 rfl (Nat.le_of_ble_eq_true rfl) dX7_readAgain_28) (fun u_95 H1 locs hp hw97 => ?_)
    obtain ⟨nat_98, nplace_99, nkind_100, nvalue_101, nfault_102, nfaultPlace_103⟩ := u_95
    generalize H1 = H at hw97 ⊢
    have hw104 : WD D A s.heap (WZ_RoundT cI cJ ad mr (upd (upd (upd (upd (upd (upd mi 10 nat_98) 11 nkind_100) 12 nvalue_101) 13 nplace_99) 14 nfault_102) 15 nfaultPlace_103) mf mg) H locs := hw97
    obtain ⟨hp_105, hp_106, hp_107, hp_108, hp_109⟩ := hp
    have hp_105 : 0 ≤ nat_98.toInt := hp_105
    have hp_106 : nat_98.toInt ≤ (mi 8).toInt := hp_106
    have hp_107 : 0 ≤ nfault_102.toInt := hp_107
    have hp_108 : nfault_102.toInt ≤ 4 := hp_108
    have hp_109 : (∀ s : Except (Int × Int) Int, CS (ti (mi 9)) (mf 7) (mi 8).toInt s nfault_84.toInt nfaultPlace_85.toInt nat_80.toInt nplace_81.toInt nkind_82.toInt nvalue_83.toInt → CS (ti (mi 9)) (mf 7) (mi 8).toInt (s.bind (passP (ti (mi 9)) (mf 7) (mi 8).toInt (40 : Int32).toInt)) nfault_102.toInt nfaultPlace_103.toInt nat_98.toInt nplace_99.toInt nkind_100.toInt nvalue_101.toInt) := hp_109
    refine lv_aload_n (pc := 31) E.1 E.2.1 dX7_readAgain_31 rfl (lv_at hl94 2 rfl) ?_
    refine x_get (pc := 32) (T := TX8) (N := 9) (ci := 8) (v := .int nfault_102) E hw104 inX8 4 7 q_552 rfl rfl (by decide) rfl rfl dX7_readAgain_32 ?_
    refine lv_if_ne (pc := 35) (tgt := 79) E.1 E.2.1 dX7_readAgain_35 (by decide) (fun c_110 => ?_) (fun c_110 => ?_)
    · skip
      have hc_110 := neE (a := nfault_102.toInt) (b := 0) rfl (by decide +kernel) c_110
      exact em_v (w1 := (fun (u : Int32 × Int32 × Int32 × Int32 × Int32 × Int32 × (Nat → Int32) × (Nat → Int32) × Int32) => (WZ_RoundT cI cJ ad mr (upd (upd (upd (upd (upd (upd (upd mi 10 u.1) 13 u.2.1) 11 u.2.2.1) 12 u.2.2.2.1) 14 u.2.2.2.2.1) 15 u.2.2.2.2.2.1) 5 u.2.2.2.2.2.2.2.2) (va_up (va_up mf 3 u.2.2.2.2.2.2.1) 4 u.2.2.2.2.2.2.2.1) mg))) E hr hlk (nat_98, nplace_99, nkind_100, nvalue_101, nfault_102, nfaultPlace_103, (mf 3), (mf 4), (mi 5)) hw104 ⟨(by show 0 ≤ nat_98.toInt; omega), (by show nat_98.toInt ≤ (mi 8).toInt; omega), (by show 0 ≤ nfault_102.toInt; omega), (by show nfault_102.toInt ≤ 4; omega), (by show 0 ≤ (mi 5).toInt; omega), (by show (mi 5).toInt ≤ 4; omega), (show RI (mf 3) (mf 4) ((mi 5).toInt).toNat (mi 2).toInt (FX (mf 3) (mf 4) ((mi 5).toInt).toNat ((mi 2).toInt)) from ⟨x_ri.1, Int.le_refl _⟩), (show (∀ h p : Int, (mi 14).toInt = 0 → (mi 11).toInt = 258 → TKS (ti (mi 9)) (mf 7) (mi 8).toInt p (mi 13).toInt (mi 10).toInt (mi 11).toInt (mi 12).toInt → IC (ti (mi 9)) (mf 7) (mi 8).toInt (itP (ti (mi 9)) (mf 7) (mi 8).toInt h ((mi 5).toInt).toNat p) ((mi 2).toInt, (stkL (mf 3) (mf 4) ((mi 5).toInt).toNat)) ((mi 2).toInt, (stkL (mf 3) (mf 4) ((mi 5).toInt).toNat)) nfault_102.toInt nfaultPlace_103.toInt nat_98.toInt nplace_99.toInt nkind_100.toInt nvalue_101.toInt) from (fun h p hf hk hp => IC_many hk (by omega) (by have q := hp_65.2 hf; have k3 : (3 : Int32).toInt = 3 := (by decide +kernel); omega) (hp_65.2 hf).2 hp_93 hp_109 p hp))⟩ (Nat.le_of_ble_eq_true rfl) (Nat.le_of_ble_eq_true rfl) dX7_readAgain_79
    · skip
      have hc_110 := eqE (a := nfault_102.toInt) (b := 0) rfl (by decide +kernel) c_110
      refine lv_aload_n (pc := 38) E.1 E.2.1 dX7_readAgain_38 rfl (lv_at hl94 1 rfl) ?_
      refine x_get (pc := 39) (T := TX7) (N := 5) (ci := 7) (v := .int (mi 5)) E hw104 inX7 0 4 q_426 rfl rfl (by decide) rfl rfl dX7_readAgain_39 ?_
      refine lv_iconst (pc := 42) (v := 4) E.1 E.2.1 dX7_readAgain_42 (by decide +kernel) ?_
      refine lv_icmp_ge (pc := 43) (tgt := 79) E.1 E.2.1 dX7_readAgain_43 (by decide) (fun _ => ?_) (fun c_111 => absurd (mleE (a := 4) (b := (mi 5).toInt) (by decide +kernel) rfl (by omega)) c_111)
      exact em_v (w1 := (fun (u : Int32 × Int32 × Int32 × Int32 × Int32 × Int32 × (Nat → Int32) × (Nat → Int32) × Int32) => (WZ_RoundT cI cJ ad mr (upd (upd (upd (upd (upd (upd (upd mi 10 u.1) 13 u.2.1) 11 u.2.2.1) 12 u.2.2.2.1) 14 u.2.2.2.2.1) 15 u.2.2.2.2.2.1) 5 u.2.2.2.2.2.2.2.2) (va_up (va_up mf 3 u.2.2.2.2.2.2.1) 4 u.2.2.2.2.2.2.2.1) mg))) E hr hlk (nat_98, nplace_99, nkind_100, nvalue_101, nfault_102, nfaultPlace_103, (mf 3), (mf 4), (mi 5)) hw104 ⟨(by show 0 ≤ nat_98.toInt; omega), (by show nat_98.toInt ≤ (mi 8).toInt; omega), (by show 0 ≤ nfault_102.toInt; omega), (by show nfault_102.toInt ≤ 4; omega), (by show 0 ≤ (mi 5).toInt; omega), (by show (mi 5).toInt ≤ 4; omega), (show RI (mf 3) (mf 4) ((mi 5).toInt).toNat (mi 2).toInt (FX (mf 3) (mf 4) ((mi 5).toInt).toNat ((mi 2).toInt)) from ⟨x_ri.1, Int.le_refl _⟩), (show (∀ h p : Int, (mi 14).toInt = 0 → (mi 11).toInt = 258 → TKS (ti (mi 9)) (mf 7) (mi 8).toInt p (mi 13).toInt (mi 10).toInt (mi 11).toInt (mi 12).toInt → IC (ti (mi 9)) (mf 7) (mi 8).toInt (itP (ti (mi 9)) (mf 7) (mi 8).toInt h ((mi 5).toInt).toNat p) ((mi 2).toInt, (stkL (mf 3) (mf 4) ((mi 5).toInt).toNat)) ((mi 2).toInt, (stkL (mf 3) (mf 4) ((mi 5).toInt).toNat)) nfault_102.toInt nfaultPlace_103.toInt nat_98.toInt nplace_99.toInt nkind_100.toInt nvalue_101.toInt) from (fun h p hf hk hp => IC_many hk (by omega) (by have q := hp_65.2 hf; have k3 : (3 : Int32).toInt = 3 := (by decide +kernel); omega) (hp_65.2 hf).2 hp_93 hp_109 p hp))⟩ (Nat.le_of_ble_eq_true rfl) (Nat.le_of_ble_eq_true rfl) dX7_readAgain_79

