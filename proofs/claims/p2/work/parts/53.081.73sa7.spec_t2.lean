set_option maxHeartbeats 4000000 in
set_option maxRecDepth 100000 in
theorem t_isLetterW (l : Launch) (D : va_G) (cI cJ : ClassId) (sz : Nat) (mr : Nat → Nat) (mi : Nat → Int32) (mf : Nat → Nat → Int32) (mg : Nat → Nat → Int64) (z_sign : Int32)  : Met l yX8_isLetter (Cond.code yX8_isLetter cX8_isLetter 1 (some .boolean) :: GW) ({ frames := 1, cells := 0, slots := 0, locals := 40 } : Room) (va_Pc [.int z_sign] (PW D cI cJ sz (WZ_Et1 cI cJ mr mi mf mg) xT)) (va_Qi (fun (r : Int32) (u : Unit) => ((r = 1 ∧ 97 ≤ z_sign.toInt ∧ z_sign.toInt ≤ 122) ∨ (r = 1 ∧ 65 ≤ z_sign.toInt ∧ z_sign.toInt ≤ 90) ∨ (r = 0 ∧ z_sign.toInt ≤ 64) ∨ (r = 0 ∧ 91 ≤ z_sign.toInt ∧ z_sign.toInt ≤ 96) ∨ (r = 0 ∧ 123 ≤ z_sign.toInt))) (fun u => QW D cI cJ (va_A (WZ_Et1 cI cJ mr mi mf mg) sz) ((fun (u : Unit) => (WZ_Et1 cI cJ mr mi mf mg)) u)) (va_A (WZ_Et1 cI cJ mr mi mf mg) sz)) 0 0 (va_A (WZ_Et1 cI cJ mr mi mf mg) sz) := by
  refine mk_met (y := yX8_isLetter) (bytes := cX8_isLetter) (maxL := 1) (avs := [.int z_sign]) (WS := (WZ_Et1 cI cJ mr mi mf mg)) (Qf := fun A => va_Qi (fun (r : Int32) (u : Unit) => ((r = 1 ∧ 97 ≤ z_sign.toInt ∧ z_sign.toInt ≤ 122) ∨ (r = 1 ∧ 65 ≤ z_sign.toInt ∧ z_sign.toInt ≤ 90) ∨ (r = 0 ∧ z_sign.toInt ≤ 64) ∨ (r = 0 ∧ 91 ≤ z_sign.toInt ∧ z_sign.toInt ≤ 96) ∨ (r = 0 ∧ 123 ≤ z_sign.toInt))) (fun u => QW D cI cJ A ((fun (u : Unit) => (WZ_Et1 cI cJ mr mi mf mg)) u)) A) (by decide) (Nat.le_of_ble_eq_true rfl) ?_
  intro p e s m below meth c A ls E hr hlk hnm hX hw1 hl2
  have hl3 : lv_has ls 1 [(0, .int z_sign)] := hl2
  refine lv_iload_n (pc := 0) E.1 E.2.1 dX8_isLetter_0 rfl (lv_at hl3 0 rfl) ?_
  refine lv_bipush (pc := 1) (v := 97) E.1 E.2.1 dX8_isLetter_1 (by decide +kernel) ?_
  refine lv_icmp_lt (pc := 3) (tgt := 12) E.1 E.2.1 dX8_isLetter_3 (by decide) (fun c_4 => ?_) (fun c_4 => ?_)
  · skip
    have hc_4 := ltE (a := z_sign.toInt) (b := 97) rfl (by decide +kernel) c_4
    refine lv_iload_n (pc := 12) E.1 E.2.1 dX8_isLetter_12 rfl (lv_at hl3 0 rfl) ?_
    refine lv_bipush (pc := 13) (v := 65) E.1 E.2.1 dX8_isLetter_13 (by decide +kernel) ?_
    refine lv_icmp_lt (pc := 15) (tgt := 28) E.1 E.2.1 dX8_isLetter_15 (by decide) (fun c_5 => ?_) (fun c_5 => ?_)
    · skip
      have hc_5 := ltE (a := z_sign.toInt) (b := 65) rfl (by decide +kernel) c_5
      refine lv_iconst (pc := 28) (v := 0) E.1 E.2.1 dX8_isLetter_28 (by decide +kernel) ?_
      exact em_z (w1 := (fun (u : Unit) => (WZ_Et1 cI cJ mr mi mf mg))) E hr hlk () hw1 (Or.inr (Or.inr (Or.inl ⟨rfl, (by show z_sign.toInt ≤ 64; omega)⟩))) (by decide +kernel) (Nat.le_of_ble_eq_true rfl) (Nat.le_of_ble_eq_true rfl) dX8_isLetter_29
    · skip
      have hc_5 := nltE (a := z_sign.toInt) (b := 65) rfl (by decide +kernel) c_5
      refine lv_iload_n (pc := 18) E.1 E.2.1 dX8_isLetter_18 rfl (lv_at hl3 0 rfl) ?_
      refine lv_bipush (pc := 19) (v := 90) E.1 E.2.1 dX8_isLetter_19 (by decide +kernel) ?_
      refine lv_icmp_gt (pc := 21) (tgt := 28) E.1 E.2.1 dX8_isLetter_21 (by decide) (fun c_6 => ?_) (fun c_6 => ?_)
      · skip
        have hc_6 := ltE (a := 90) (b := z_sign.toInt) (by decide +kernel) rfl c_6
        refine lv_iconst (pc := 28) (v := 0) E.1 E.2.1 dX8_isLetter_28 (by decide +kernel) ?_
        exact em_z (w1 := (fun (u : Unit) => (WZ_Et1 cI cJ mr mi mf mg))) E hr hlk () hw1 (Or.inr (Or.inr (Or.inr (Or.inl ⟨rfl, (by show 91 ≤ z_sign.toInt; omega), (by show z_sign.toInt ≤ 96; omega)⟩)))) (by decide +kernel) (Nat.le_of_ble_eq_true rfl) (Nat.le_of_ble_eq_true rfl) dX8_isLetter_29
      · skip
        have hc_6 := nltE (a := 90) (b := z_sign.toInt) (by decide +kernel) rfl c_6
        refine lv_iconst (pc := 24) (v := 1) E.1 E.2.1 dX8_isLetter_24 (by decide +kernel) ?_
        refine lv_goto (pc := 25) (tgt := 29) E.1 E.2.1 dX8_isLetter_25 (by decide) ?_
        exact em_z (w1 := (fun (u : Unit) => (WZ_Et1 cI cJ mr mi mf mg))) E hr hlk () hw1 (Or.inr (Or.inl ⟨rfl, (by show 65 ≤ z_sign.toInt; omega), (by show z_sign.toInt ≤ 90; omega)⟩)) (by decide +kernel) (Nat.le_of_ble_eq_true rfl) (Nat.le_of_ble_eq_true rfl) dX8_isLetter_29
  · skip
    have hc_4 := nltE (a := z_sign.toInt) (b := 97) rfl (by decide +kernel) c_4
    refine lv_iload_n (pc := 6) E.1 E.2.1 dX8_isLetter_6 rfl (lv_at hl3 0 rfl) ?_
    refine lv_bipush (pc := 7) (v := 122) E.1 E.2.1 dX8_isLetter_7 (by decide +kernel) ?_
    refine lv_icmp_le (pc := 9) (tgt := 24) E.1 E.2.1 dX8_isLetter_9 (by decide) (fun c_7 => ?_) (fun c_7 => ?_)
    · skip
      have hc_7 := leE (a := z_sign.toInt) (b := 122) rfl (by decide +kernel) c_7
      refine lv_iconst (pc := 24) (v := 1) E.1 E.2.1 dX8_isLetter_24 (by decide +kernel) ?_
      refine lv_goto (pc := 25) (tgt := 29) E.1 E.2.1 dX8_isLetter_25 (by decide) ?_
      exact em_z (w1 := (fun (u : Unit) => (WZ_Et1 cI cJ mr mi mf mg))) E hr hlk () hw1 (Or.inl ⟨rfl, (by show 97 ≤ z_sign.toInt; omega), (by show z_sign.toInt ≤ 122; omega)⟩) (by decide +kernel) (Nat.le_of_ble_eq_true rfl) (Nat.le_of_ble_eq_true rfl) dX8_isLetter_29
    · skip
      have hc_7 := nleE (a := z_sign.toInt) (b := 122) rfl (by decide +kernel) c_7
      refine lv_iload_n (pc := 12) E.1 E.2.1 dX8_isLetter_12 rfl (lv_at hl3 0 rfl) ?_
      refine lv_bipush (pc := 13) (v := 65) E.1 E.2.1 dX8_isLetter_13 (by decide +kernel) ?_
      refine lv_icmp_lt (pc := 15) (tgt := 28) E.1 E.2.1 dX8_isLetter_15 (by decide) (fun c_8 => absurd c_8 (mnltE (a := z_sign.toInt) (b := 65) rfl (by decide +kernel) (by omega))) (fun _ => ?_)
      refine lv_iload_n (pc := 18) E.1 E.2.1 dX8_isLetter_18 rfl (lv_at hl3 0 rfl) ?_
      refine lv_bipush (pc := 19) (v := 90) E.1 E.2.1 dX8_isLetter_19 (by decide +kernel) ?_
      refine lv_icmp_gt (pc := 21) (tgt := 28) E.1 E.2.1 dX8_isLetter_21 (by decide) (fun _ => ?_) (fun c_9 => absurd (mltE (a := 90) (b := z_sign.toInt) (by decide +kernel) rfl (by omega)) c_9)
      refine lv_iconst (pc := 28) (v := 0) E.1 E.2.1 dX8_isLetter_28 (by decide +kernel) ?_
      exact em_z (w1 := (fun (u : Unit) => (WZ_Et1 cI cJ mr mi mf mg))) E hr hlk () hw1 (Or.inr (Or.inr (Or.inr (Or.inr (⟨rfl, (by show 123 ≤ z_sign.toInt; omega)⟩))))) (by decide +kernel) (Nat.le_of_ble_eq_true rfl) (Nat.le_of_ble_eq_true rfl) dX8_isLetter_29

set_option maxHeartbeats 4000000 in
set_option maxRecDepth 100000 in
theorem t_isDigitW (l : Launch) (D : va_G) (cI cJ : ClassId) (sz : Nat) (mr : Nat → Nat) (mi : Nat → Int32) (mf : Nat → Nat → Int32) (mg : Nat → Nat → Int64) (z_sign : Int32)  : Met l yX8_isDigit (Cond.code yX8_isDigit cX8_isDigit 1 (some .boolean) :: GW) ({ frames := 1, cells := 0, slots := 0, locals := 40 } : Room) (va_Pc [.int z_sign] (PW D cI cJ sz (WZ_Et2 cI cJ mr mi mf mg) xT)) (va_Qi (fun (r : Int32) (u : Unit) => ((r = 1 ∧ 48 ≤ z_sign.toInt ∧ z_sign.toInt ≤ 57) ∨ (r = 0 ∧ z_sign.toInt ≤ 47) ∨ (r = 0 ∧ 58 ≤ z_sign.toInt))) (fun u => QW D cI cJ (va_A (WZ_Et2 cI cJ mr mi mf mg) sz) ((fun (u : Unit) => (WZ_Et2 cI cJ mr mi mf mg)) u)) (va_A (WZ_Et2 cI cJ mr mi mf mg) sz)) 0 0 (va_A (WZ_Et2 cI cJ mr mi mf mg) sz) := by
  refine mk_met (y := yX8_isDigit) (bytes := cX8_isDigit) (maxL := 1) (avs := [.int z_sign]) (WS := (WZ_Et2 cI cJ mr mi mf mg)) (Qf := fun A => va_Qi (fun (r : Int32) (u : Unit) => ((r = 1 ∧ 48 ≤ z_sign.toInt ∧ z_sign.toInt ≤ 57) ∨ (r = 0 ∧ z_sign.toInt ≤ 47) ∨ (r = 0 ∧ 58 ≤ z_sign.toInt))) (fun u => QW D cI cJ A ((fun (u : Unit) => (WZ_Et2 cI cJ mr mi mf mg)) u)) A) (by decide) (Nat.le_of_ble_eq_true rfl) ?_
  intro p e s m below meth c A ls E hr hlk hnm hX hw1 hl2
  have hl3 : lv_has ls 1 [(0, .int z_sign)] := hl2
  refine lv_iload_n (pc := 0) E.1 E.2.1 dX8_isDigit_0 rfl (lv_at hl3 0 rfl) ?_
  refine lv_bipush (pc := 1) (v := 48) E.1 E.2.1 dX8_isDigit_1 (by decide +kernel) ?_
  refine lv_icmp_lt (pc := 3) (tgt := 16) E.1 E.2.1 dX8_isDigit_3 (by decide) (fun c_4 => ?_) (fun c_4 => ?_)
  · skip
    have hc_4 := ltE (a := z_sign.toInt) (b := 48) rfl (by decide +kernel) c_4
    refine lv_iconst (pc := 16) (v := 0) E.1 E.2.1 dX8_isDigit_16 (by decide +kernel) ?_
    exact em_z (w1 := (fun (u : Unit) => (WZ_Et2 cI cJ mr mi mf mg))) E hr hlk () hw1 (Or.inr (Or.inl ⟨rfl, (by show z_sign.toInt ≤ 47; omega)⟩)) (by decide +kernel) (Nat.le_of_ble_eq_true rfl) (Nat.le_of_ble_eq_true rfl) dX8_isDigit_17
  · skip
    have hc_4 := nltE (a := z_sign.toInt) (b := 48) rfl (by decide +kernel) c_4
    refine lv_iload_n (pc := 6) E.1 E.2.1 dX8_isDigit_6 rfl (lv_at hl3 0 rfl) ?_
    refine lv_bipush (pc := 7) (v := 57) E.1 E.2.1 dX8_isDigit_7 (by decide +kernel) ?_
    refine lv_icmp_gt (pc := 9) (tgt := 16) E.1 E.2.1 dX8_isDigit_9 (by decide) (fun c_5 => ?_) (fun c_5 => ?_)
    · skip
      have hc_5 := ltE (a := 57) (b := z_sign.toInt) (by decide +kernel) rfl c_5
      refine lv_iconst (pc := 16) (v := 0) E.1 E.2.1 dX8_isDigit_16 (by decide +kernel) ?_
      exact em_z (w1 := (fun (u : Unit) => (WZ_Et2 cI cJ mr mi mf mg))) E hr hlk () hw1 (Or.inr (Or.inr (⟨rfl, (by show 58 ≤ z_sign.toInt; omega)⟩))) (by decide +kernel) (Nat.le_of_ble_eq_true rfl) (Nat.le_of_ble_eq_true rfl) dX8_isDigit_17
    · skip
      have hc_5 := nltE (a := 57) (b := z_sign.toInt) (by decide +kernel) rfl c_5
      refine lv_iconst (pc := 12) (v := 1) E.1 E.2.1 dX8_isDigit_12 (by decide +kernel) ?_
      refine lv_goto (pc := 13) (tgt := 17) E.1 E.2.1 dX8_isDigit_13 (by decide) ?_
      exact em_z (w1 := (fun (u : Unit) => (WZ_Et2 cI cJ mr mi mf mg))) E hr hlk () hw1 (Or.inl ⟨rfl, (by show 48 ≤ z_sign.toInt; omega), (by show z_sign.toInt ≤ 57; omega)⟩) (by decide +kernel) (Nat.le_of_ble_eq_true rfl) (Nat.le_of_ble_eq_true rfl) dX8_isDigit_17

set_option maxHeartbeats 4000000 in
set_option maxRecDepth 100000 in
theorem t_canEncodeW (l : Launch) (D : va_G) (cI cJ : ClassId) (sz : Nat) (mr : Nat → Nat) (mi : Nat → Int32) (mf : Nat → Nat → Int32) (mg : Nat → Nat → Int64) (z_cp : Int32) (h0 : 0 ≤ z_cp.toInt ∧ z_cp.toInt ≤ 255) : Met l yJ1_canEncode_9a6ad (Cond.code yJ1_canEncode_9a6ad cJ1_canEncode_9a6ad 1 (some .boolean) :: GW) ({ frames := 1, cells := 0, slots := 0, locals := 40 } : Room) (va_Pc [.int z_cp] (PW D cI cJ sz (WZ_Es cI cJ mr mi mf mg) xT)) (va_Qi (fun (r : Int32) (u : Unit) => ((r = 1))) (fun u => QW D cI cJ (va_A (WZ_Es cI cJ mr mi mf mg) sz) ((fun (u : Unit) => (WZ_Es cI cJ mr mi mf mg)) u)) (va_A (WZ_Es cI cJ mr mi mf mg) sz)) 0 0 (va_A (WZ_Es cI cJ mr mi mf mg) sz) := by
  refine mk_met (y := yJ1_canEncode_9a6ad) (bytes := cJ1_canEncode_9a6ad) (maxL := 1) (avs := [.int z_cp]) (WS := (WZ_Es cI cJ mr mi mf mg)) (Qf := fun A => va_Qi (fun (r : Int32) (u : Unit) => ((r = 1))) (fun u => QW D cI cJ A ((fun (u : Unit) => (WZ_Es cI cJ mr mi mf mg)) u)) A) (by decide) (Nat.le_of_ble_eq_true rfl) ?_
  intro p e s m below meth c A ls E hr hlk hnm hX hw1 hl2
  have hl3 : lv_has ls 1 [(0, .int z_cp)] := hl2
  refine lv_iload_n (pc := 0) E.1 E.2.1 dJ1_canEncode_9a6ad_0 rfl (lv_at hl3 0 rfl) ?_
  refine lv_if_lt (pc := 1) (tgt := 15) E.1 E.2.1 dJ1_canEncode_9a6ad_1 (by decide) (fun c_4 => absurd c_4 (mnltE (a := z_cp.toInt) (b := 0) rfl (by decide +kernel) (by omega))) (fun _ => ?_)
  refine lv_iload_n (pc := 4) E.1 E.2.1 dJ1_canEncode_9a6ad_4 rfl (lv_at hl3 0 rfl) ?_
  refine lv_sipush (pc := 5) (v := 255) E.1 E.2.1 dJ1_canEncode_9a6ad_5 (by decide +kernel) ?_
  refine lv_icmp_gt (pc := 8) (tgt := 15) E.1 E.2.1 dJ1_canEncode_9a6ad_8 (by decide) (fun c_5 => absurd c_5 (mnltE (a := 255) (b := z_cp.toInt) (by decide +kernel) rfl (by omega))) (fun _ => ?_)
  refine lv_iconst (pc := 11) (v := 1) E.1 E.2.1 dJ1_canEncode_9a6ad_11 (by decide +kernel) ?_
  refine lv_goto (pc := 12) (tgt := 16) E.1 E.2.1 dJ1_canEncode_9a6ad_12 (by decide) ?_
  exact em_z (w1 := (fun (u : Unit) => (WZ_Es cI cJ mr mi mf mg))) E hr hlk () hw1 (rfl) (by decide +kernel) (Nat.le_of_ble_eq_true rfl) (Nat.le_of_ble_eq_true rfl) dJ1_canEncode_9a6ad_16

set_option maxHeartbeats 4000000 in
set_option maxRecDepth 100000 in
theorem t_charAtLW (l : Launch) (D : va_G) (cI cJ : ClassId) (sz : Nat) (mr : Nat → Nat) (mi : Nat → Int32) (mf : Nat → Nat → Int32) (mg : Nat → Nat → Int64) (z_index : Int32) (ad av : Nat → Nat) (tf : Value) (i : Nat) (hi : i < 7) (h0 : 0 ≤ z_index.toInt) (h1 : z_index.toInt + 1 ≤ (sLen.getD i 0 : Int)) : Met l yJ1_charAt_3b067 (Cond.code yJ1_charAt_3b067 cJ1_charAt_3b067 2 (some .char) :: GW) ({ frames := 3, cells := 0, slots := 0, locals := 83 } : Room) (va_Pc [.ref (av i), .int z_index] (PW D cI cJ sz (WZ_Es cI cJ mr mi mf mg) (xS ad av tf (va_A (WZ_Es cI cJ mr mi mf mg) sz)))) (va_Qi (fun (r : Int32) (u : Unit) => (0 ≤ r.toInt) ∧ (r.toInt ≤ 65535) ∧ ((r : Int32).toInt = sCh i (z_index).toNatClampNeg)) (fun u => QW D cI cJ (va_A (WZ_Es cI cJ mr mi mf mg) sz) ((fun (u : Unit) => (WZ_Es cI cJ mr mi mf mg)) u)) (va_A (WZ_Es cI cJ mr mi mf mg) sz)) 0 0 (va_A (WZ_Es cI cJ mr mi mf mg) sz) := by
  refine mk_metA (X := fun A => xS ad av tf A) (y := yJ1_charAt_3b067) (bytes := cJ1_charAt_3b067) (maxL := 2) (avs := [.ref (av i), .int z_index]) (WS := (WZ_Es cI cJ mr mi mf mg)) (Qf := fun A => va_Qi (fun (r : Int32) (u : Unit) => (0 ≤ r.toInt) ∧ (r.toInt ≤ 65535) ∧ ((r : Int32).toInt = sCh i (z_index).toNatClampNeg)) (fun u => QW D cI cJ A ((fun (u : Unit) => (WZ_Es cI cJ mr mi mf mg)) u)) A) (by decide) (Nat.le_of_ble_eq_true rfl) ?_
  intro p e s m below meth c A ls E hr hlk hnm hX hw1 hl2
  have hl3 : lv_has ls 2 [(0, .ref (av i)), (1, .int z_index)] := hl2
  refine lv_iload_n (pc := 0) E.1 E.2.1 dJ1_charAt_3b067_0 rfl (lv_at hl3 1 rfl) ?_
  refine lv_aload_n (pc := 1) E.1 E.2.1 dJ1_charAt_3b067_1 rfl (lv_at hl3 0 rfl) ?_
  obtain ⟨v_4, ev_4, hv_4, hv_4b⟩ := s_len hi
  refine x_tblen (pc := 2) E hw1 (hX.1.1 i hi).2.2.2 ev_4 dJ1_charAt_3b067_2 ?_
  refine cq_v (pc := 3) (ws' := (fun (u : Unit) => (WZ_Es cI cJ mr mi mf mg))) hw1 [] [] [] rfl rfl (by decide) (by decide) (fun _ => rfl) (by decide) (rn_S2 (As := [.int z_index, .int v_4]) (rest := []) E hw1 (t_checkIndexS l D cI cJ _ (ixf [] mr) (ixf [] mi) (ixf [] mf) (ixf [] mg) z_index v_4 ad av tf (by show 0 ≤ z_index.toInt; omega) (by show z_index.toInt + 1 ≤ v_4.toInt; omega)) q_756 q_163 q_754 q_755 hdS_J0_checkIndex_df160 ⟨rfl, rfl⟩ ⟨(Nat.le_of_ble_eq_true rfl), (Nat.le_of_ble_eq_true rfl)⟩ ⟨(Nat.le_of_ble_eq_true rfl), (Nat.le_of_ble_eq_true rfl)⟩ xS_b (xS_at hX hw1.2.2.1 (va_free hw1.2.1 hw1.2.2.1 hw1.2.2.2 [] rfl)) [] rfl (by decide) rfl hl3.1 rfl (Nat.le_of_ble_eq_true rfl) dJ1_charAt_3b067_3) (fun u_5 H1 locs hp hw7 => ?_)
  generalize H1 = H at hw7 ⊢
  have hw8 : WD D A s.heap (WZ_Es cI cJ mr mi mf mg) H locs := hw7
  refine lv_aload_n (pc := 6) E.1 E.2.1 dJ1_charAt_3b067_6 rfl (lv_at hl3 0 rfl) ?_
  refine lv_iload_n (pc := 7) E.1 E.2.1 dJ1_charAt_3b067_7 rfl (lv_at hl3 1 rfl) ?_
  refine x_tb (pc := 8) E hw8 (hX.1.1 i hi).2.2.2 (inbE (a := z_index.toInt) rfl (by omega)) rfl dJ1_charAt_3b067_8 ?_
  refine lv_topi (fun v_10 ev_10 => ?_)
  refine lv_sipush (pc := 9) (v := 255) E.1 E.2.1 dJ1_charAt_3b067_9 (by decide +kernel) ?_
  refine lv_iand (pc := 12) E.1 E.2.1 dJ1_charAt_3b067_12 ?_
  refine lv_topi (fun v_11 ev_11 => ?_)
  refine lv_i2c (pc := 13) E.1 E.2.1 dJ1_charAt_3b067_13 rfl ?_
  refine lv_topi (fun v_12 ev_12 => ?_)
  have hbv_12 : 0 ≤ v_12.toInt ∧ v_12.toInt ≤ 65535 := by rw [ev_12]; exact i2c_b _
  exact em_t (w1 := (fun (u : Unit) => (WZ_Es cI cJ mr mi mf mg))) E hr hlk () hw8 ⟨(by show 0 ≤ v_12.toInt; omega), (by show v_12.toInt ≤ 65535; omega), (show (v_12 : Int32).toInt = sCh i (z_index).toNatClampNeg from (by have hq := sq_at (i := i) (j := z_index) hi (by omega) (by have h9 := (s_all i hi).2; omega); have hb : v_10.toInt = sCh i z_index.toNatClampNeg := congrArg Int32.toInt ev_10; rw [← hb]; exact chr_id (by rw [hb]; exact hq) ev_11 ev_12))⟩ (char_nar (by omega)) (Nat.le_of_ble_eq_true rfl) (Nat.le_of_ble_eq_true rfl) dJ1_charAt_3b067_14

set_option maxHeartbeats 4000000 in
set_option maxRecDepth 100000 in
theorem t_charAtW (l : Launch) (D : va_G) (cI cJ : ClassId) (sz : Nat) (mr : Nat → Nat) (mi : Nat → Int32) (mf : Nat → Nat → Int32) (mg : Nat → Nat → Int64) (z_index : Int32) (ad av : Nat → Nat) (tf : Value) (i : Nat) (hi : i < 7) (h0 : 0 ≤ z_index.toInt) (h1 : z_index.toInt + 1 ≤ (sLen.getD i 0 : Int)) : Met l yJ0_charAt_5068e (Cond.code yJ0_charAt_5068e cJ0_charAt_5068e 2 (some .char) :: GW) ({ frames := 4, cells := 0, slots := 0, locals := 104 } : Room) (va_Pc [.ref (ad i), .int z_index] (PW D cI cJ sz (WZ_Es cI cJ mr mi mf mg) (xS ad av tf (va_A (WZ_Es cI cJ mr mi mf mg) sz)))) (va_Qi (fun (r : Int32) (u : Unit) => (0 ≤ r.toInt) ∧ (r.toInt ≤ 65535) ∧ ((r : Int32).toInt = sCh i (z_index).toNatClampNeg)) (fun u => QW D cI cJ (va_A (WZ_Es cI cJ mr mi mf mg) sz) ((fun (u : Unit) => (WZ_Es cI cJ mr mi mf mg)) u)) (va_A (WZ_Es cI cJ mr mi mf mg) sz)) 0 0 (va_A (WZ_Es cI cJ mr mi mf mg) sz) := by
  refine mk_metA (X := fun A => xS ad av tf A) (y := yJ0_charAt_5068e) (bytes := cJ0_charAt_5068e) (maxL := 2) (avs := [.ref (ad i), .int z_index]) (WS := (WZ_Es cI cJ mr mi mf mg)) (Qf := fun A => va_Qi (fun (r : Int32) (u : Unit) => (0 ≤ r.toInt) ∧ (r.toInt ≤ 65535) ∧ ((r : Int32).toInt = sCh i (z_index).toNatClampNeg)) (fun u => QW D cI cJ A ((fun (u : Unit) => (WZ_Es cI cJ mr mi mf mg)) u)) A) (by decide) (Nat.le_of_ble_eq_true rfl) ?_
  intro p e s m below meth c A ls E hr hlk hnm hX hw1 hl2
  have hl3 : lv_has ls 2 [(0, .ref (ad i)), (1, .int z_index)] := hl2
  refine lv_aload_n (pc := 0) E.1 E.2.1 dJ0_charAt_5068e_0 rfl (lv_at hl3 0 rfl) ?_
  refine cq_i (pc := 1) (ws' := (fun (u : Unit) => (WZ_Es cI cJ mr mi mf mg))) hw1 [] [] [] rfl rfl (by decide) (by decide) (fun _ => rfl) (by decide) (rn_VS (As := []) (rest := []) E hw1 (t_isLatin1 l D cI cJ _ (ixf [] mr) (ixf [] mi) (ixf [] mf) (ixf [] mg) ad av tf i hi) (gdV q_747 q_748 q_749 q_163 q_750) hdV_J0_isLatin1_aae02 ⟨rfl, rfl⟩ ⟨(Nat.le_of_ble_eq_true rfl), (Nat.le_of_ble_eq_true rfl)⟩ ⟨(Nat.le_of_ble_eq_true rfl), (Nat.le_of_ble_eq_true rfl)⟩ xS_b (xS_at hX hw1.2.2.1 (va_free hw1.2.1 hw1.2.2.1 hw1.2.2.2 [] rfl)) hX.1 hi rfl rfl [] rfl (by decide) rfl hl3.1 rfl (Nat.le_of_ble_eq_true rfl) dJ0_charAt_5068e_1) (fun r_5 u_4 H1 locs hp hw6 => ?_)
  generalize H1 = H at hw6 ⊢
  have hw7 : WD D A s.heap (WZ_Es cI cJ mr mi mf mg) H locs := hw6
  have hp_8 := hp
  rcases hp_8 with rfl
  · skip
    refine lv_if_eq (pc := 4) (tgt := 16) E.1 E.2.1 dJ0_charAt_5068e_4 (by decide) (fun c_9 => absurd c_9 (mneE (a := 1) (b := 0) (by decide +kernel) (by decide +kernel) (by omega))) (fun _ => ?_)
    refine lv_aload_n (pc := 7) E.1 E.2.1 dJ0_charAt_5068e_7 rfl (lv_at hl3 0 rfl) ?_
    refine x_sf (pc := 8) E hw7 (hX.1.1 i hi).2.2.1 q_2145 rfl dJ0_charAt_5068e_8 ?_
    refine lv_iload_n (pc := 11) E.1 E.2.1 dJ0_charAt_5068e_11 rfl (lv_at hl3 1 rfl) ?_
    refine cq_i (pc := 12) (ws' := (fun (u : Unit) => (WZ_Es cI cJ mr mi mf mg))) hw7 [] [] [] rfl rfl (by decide) (by decide) (fun _ => rfl) (by decide) (rn_S2 (As := [.ref (av i), .int z_index]) (rest := []) E hw7 (t_charAtLW l D cI cJ _ (ixf [] mr) (ixf [] mi) (ixf [] mf) (ixf [] mg) z_index ad av tf i hi (by show 0 ≤ z_index.toInt; omega) (by show z_index.toInt + 1 ≤ (sLen.getD i 0 : Int); omega)) q_753 q_164 q_751 q_752 hdS_J1_charAt_3b067 ⟨rfl, rfl⟩ ⟨(Nat.le_of_ble_eq_true rfl), (Nat.le_of_ble_eq_true rfl)⟩ ⟨(Nat.le_of_ble_eq_true rfl), (Nat.le_of_ble_eq_true rfl)⟩ xS_b (xS_at hX hw7.2.2.1 (va_free hw7.2.1 hw7.2.2.1 hw7.2.2.2 [] rfl)) [] rfl (by decide) rfl hl3.1 rfl (Nat.le_of_ble_eq_true rfl) dJ0_charAt_5068e_12) (fun r_11 u_10 H1 locs hp hw12 => ?_)
    generalize H1 = H at hw12 ⊢
    have hw13 : WD D A s.heap (WZ_Es cI cJ mr mi mf mg) H locs := hw12
    obtain ⟨hp_14, hp_15, hp_16⟩ := hp
    have hp_14 : 0 ≤ r_11.toInt := hp_14
    have hp_15 : r_11.toInt ≤ 65535 := hp_15
    have hp_16 : (r_11 : Int32).toInt = sCh i (z_index).toNatClampNeg := hp_16
    exact em_t (w1 := (fun (u : Unit) => (WZ_Es cI cJ mr mi mf mg))) E hr hlk () hw13 ⟨(by show 0 ≤ r_11.toInt; omega), (by show r_11.toInt ≤ 65535; omega), (show (r_11 : Int32).toInt = sCh i (z_index).toNatClampNeg from hp_16)⟩ (char_nar (by omega)) (Nat.le_of_ble_eq_true rfl) (Nat.le_of_ble_eq_true rfl) dJ0_charAt_5068e_15

set_option maxHeartbeats 4000000 in
set_option maxRecDepth 100000 in
theorem t_indexOfCharW (l : Launch) (D : va_G) (cI cJ : ClassId) (sz : Nat) (mr : Nat → Nat) (mi : Nat → Int32) (mf : Nat → Nat → Int32) (mg : Nat → Nat → Int64) (z_ch : Int32) (z_from : Int32) (z_to : Int32) (ad av : Nat → Nat) (tf : Value) (i : Nat) (hi : i < 7) (h0 : 0 ≤ z_ch.toInt ∧ z_ch.toInt ≤ 255) (h1 : 0 ≤ z_from.toInt) (h2 : z_from.toInt ≤ z_to.toInt) (h3 : z_to.toInt ≤ (sLen.getD i 0 : Int)) (h4 : z_to.toInt ≤ 75) : Met l yJ1_indexOfChar_4cfef (Cond.code yJ1_indexOfChar_4cfef cJ1_indexOfChar_4cfef 6 (some .int) :: GW) ({ frames := 1, cells := 0, slots := 0, locals := 40 } : Room) (va_Pc [.ref (av i), .int z_ch, .int z_from, .int z_to] (PW D cI cJ sz (WZ_Es cI cJ mr mi mf mg) (xS ad av tf (va_A (WZ_Es cI cJ mr mi mf mg) sz)))) (va_Qi (fun (r : Int32) (u : Unit) => ((0 ≤ (r : Int32).toInt ↔ SIX i (z_ch).toInt (z_from).toInt (z_to).toInt))) (fun u => QW D cI cJ (va_A (WZ_Es cI cJ mr mi mf mg) sz) ((fun (u : Unit) => (WZ_Es cI cJ mr mi mf mg)) u)) (va_A (WZ_Es cI cJ mr mi mf mg) sz)) 0 0 (va_A (WZ_Es cI cJ mr mi mf mg) sz) := by
  refine mk_metA (X := fun A => xS ad av tf A) (y := yJ1_indexOfChar_4cfef) (bytes := cJ1_indexOfChar_4cfef) (maxL := 6) (avs := [.ref (av i), .int z_ch, .int z_from, .int z_to]) (WS := (WZ_Es cI cJ mr mi mf mg)) (Qf := fun A => va_Qi (fun (r : Int32) (u : Unit) => ((0 ≤ (r : Int32).toInt ↔ SIX i (z_ch).toInt (z_from).toInt (z_to).toInt))) (fun u => QW D cI cJ A ((fun (u : Unit) => (WZ_Es cI cJ mr mi mf mg)) u)) A) (by decide) (Nat.le_of_ble_eq_true rfl) ?_
  intro p e s m below meth c A ls E hr hlk hnm hX hw1 hl2
  have hl3 : lv_has ls 6 [(0, .ref (av i)), (1, .int z_ch), (2, .int z_from), (3, .int z_to)] := hl2
  refine lv_iload_n (pc := 0) E.1 E.2.1 dJ1_indexOfChar_4cfef_0 rfl (lv_at hl3 1 rfl) ?_
  refine lv_i2b (pc := 1) E.1 E.2.1 dJ1_indexOfChar_4cfef_1 rfl ?_
  refine lv_topi (fun v_4 ev_4 => ?_)
  refine lv_istore (pc := 2) (lv' := [(4, .int v_4), (0, .ref (av i)), (1, .int z_ch), (2, .int z_from), (3, .int z_to)]) E.1 E.2.1 dJ1_indexOfChar_4cfef_2 hl3 (by decide) rfl (fun ls hl5 => ?_)
  refine lv_iload_n (pc := 4) E.1 E.2.1 dJ1_indexOfChar_4cfef_4 rfl (lv_at hl5 3 rfl) ?_
  refine lv_istore (pc := 5) (lv' := [(5, .int z_from), (4, .int v_4), (0, .ref (av i)), (1, .int z_ch), (2, .int z_from), (3, .int z_to)]) E.1 E.2.1 dJ1_indexOfChar_4cfef_5 hl5 (by decide) rfl (fun ls hl6 => ?_)
  have loop_7 : ∀ (k : Nat) (x_8 : Int32) (H : Heap) (locs : List Loc) (ls : Array Slot), (0 ≤ x_8.toInt) ∧ (z_from.toInt ≤ x_8.toInt) ∧ (x_8.toInt ≤ z_to.toInt) ∧ (∀ j : Nat, z_from.toInt ≤ (j : Int) → (j : Int) < x_8.toInt → sCh i j ≠ z_ch.toInt) → z_to.toInt - x_8.toInt < (k : Int) → WD D A s.heap (WZ_Es cI cJ mr mi mf mg) H locs → lv_has ls 6 [(5, .int x_8), (4, .int v_4), (0, .ref (av i)), (1, .int z_ch), (2, .int z_from), (3, .int z_to)] → W p l e ({ frames := 1, cells := 0, slots := 0, locals := 40 } : Room) s m ([.ref (av i), .int z_ch, .int z_from, .int z_to] : List Value).toArray below meth c H locs 0 0 (MQ below (va_Qi (fun (r : Int32) (u : Unit) => ((0 ≤ (r : Int32).toInt ↔ SIX i (z_ch).toInt (z_from).toInt (z_to).toInt))) (fun u => QW D cI cJ A ((fun (u : Unit) => (WZ_Es cI cJ mr mi mf mg)) u)) A) ([.ref (av i), .int z_ch, .int z_from, .int z_to] : List Value).toArray s 0 0 A) (F0 m 7 ls []) := by
    intro k
    induction k with
    | zero =>
      intro x_8 _ _ _ hinv hm
      obtain ⟨hi_8_0, hi_8_1, hi_8_2, hi_8_3⟩ := hinv
      exact absurd hm (by omega)
    | succ k ih_9 =>
      intro x_8 H locs ls hinv hm hw10 hl11
      obtain ⟨hi_8_0, hi_8_1, hi_8_2, hi_8_3⟩ := hinv
      refine lv_iload (pc := 7) E.1 E.2.1 dJ1_indexOfChar_4cfef_7 (lv_at hl11 0 rfl) ?_
      refine lv_iload_n (pc := 9) E.1 E.2.1 dJ1_indexOfChar_4cfef_9 rfl (lv_at hl11 5 rfl) ?_
      refine lv_icmp_ge (pc := 10) (tgt := 31) E.1 E.2.1 dJ1_indexOfChar_4cfef_10 (by decide) (fun c_12 => ?_) (fun c_12 => ?_)
      · skip
        have hc_12 := leE (a := z_to.toInt) (b := x_8.toInt) rfl rfl c_12
        refine lv_iconst (pc := 31) (v := (-1)) E.1 E.2.1 dJ1_indexOfChar_4cfef_31 (by decide +kernel) ?_
        exact em_i (w1 := (fun (u : Unit) => (WZ_Es cI cJ mr mi mf mg))) E hr hlk () hw10 (show (0 ≤ ((-1) : Int32).toInt ↔ SIX i (z_ch).toInt (z_from).toInt (z_to).toInt) from ⟨fun h => absurd h (by decide +kernel), fun ⟨j, h1, h2, h3⟩ => absurd h3 (hi_8_3 j h1 (by omega))⟩) (Nat.le_of_ble_eq_true rfl) (Nat.le_of_ble_eq_true rfl) dJ1_indexOfChar_4cfef_32
      · skip
        have hc_12 := nleE (a := z_to.toInt) (b := x_8.toInt) rfl rfl c_12
        refine lv_aload_n (pc := 13) E.1 E.2.1 dJ1_indexOfChar_4cfef_13 rfl (lv_at hl11 2 rfl) ?_
        refine lv_iload (pc := 14) E.1 E.2.1 dJ1_indexOfChar_4cfef_14 (lv_at hl11 0 rfl) ?_
        refine x_tb (pc := 16) E hw10 (hX.1.1 i hi).2.2.2 (inbE (a := x_8.toInt) rfl (by omega)) rfl dJ1_indexOfChar_4cfef_16 ?_
        refine lv_topi (fun v_14 ev_14 => ?_)
        refine lv_iload (pc := 17) E.1 E.2.1 dJ1_indexOfChar_4cfef_17 (lv_at hl11 1 rfl) ?_
        refine lv_icmp_ne (pc := 19) (tgt := 25) E.1 E.2.1 dJ1_indexOfChar_4cfef_19 (by decide) (fun c_15 => ?_) (fun c_15 => ?_)
        · skip
          have hc_15 := neE (a := v_14.toInt) (b := v_4.toInt) rfl rfl c_15
          obtain ⟨v_16, ev_16⟩ : ∃ z : Int32, x_8 + Int32.ofInt (1) = z := ⟨_, rfl⟩
          have hv_16 : v_16.toInt = x_8.toInt + (1) := by rw [← ev_16]; exact incE rfl (by decide) (by omega)
          refine lv_iinc (pc := 25) (v := v_16) (lv' := [(5, .int v_16), (4, .int v_4), (0, .ref (av i)), (1, .int z_ch), (2, .int z_from), (3, .int z_to)]) E.1 E.2.1 dJ1_indexOfChar_4cfef_25 hl11 (k := 0) rfl ev_16 (by decide) rfl (fun ls hl17 => ?_)
          refine lv_goto (pc := 28) (tgt := 7) E.1 E.2.1 dJ1_indexOfChar_4cfef_28 (by decide) ?_
          exact ih_9 v_16 _ _ _ ⟨(by show 0 ≤ v_16.toInt; omega), (by show z_from.toInt ≤ v_16.toInt; omega), (by show v_16.toInt ≤ z_to.toInt; omega), (six_step hi_8_3 ev_14 (by omega) rfl (fun z => absurd ((i2b_iff (x := z_ch) (by omega) ev_4 (by have hq := sq_at (i := i) (j := x_8) hi (by omega) (by omega); have hb : v_14.toInt = sCh i x_8.toNatClampNeg := congrArg Int32.toInt ev_14; omega)).mpr z) (by omega)) (m := v_16.toInt) (by omega))⟩ (by omega) hw10 (lv_sub hl17 [0, 1, 2, 3, 4, 5] rfl)
        · skip
          have hc_15 := eqE (a := v_14.toInt) (b := v_4.toInt) rfl rfl c_15
          refine lv_iload (pc := 22) E.1 E.2.1 dJ1_indexOfChar_4cfef_22 (lv_at hl11 0 rfl) ?_
          exact em_i (w1 := (fun (u : Unit) => (WZ_Es cI cJ mr mi mf mg))) E hr hlk () hw10 (show (0 ≤ (x_8 : Int32).toInt ↔ SIX i (z_ch).toInt (z_from).toInt (z_to).toInt) from ⟨fun _ => ⟨x_8.toNatClampNeg, by have q := idxI (x := x_8) (by omega); omega, by have q := idxI (x := x_8) (by omega); omega, (by have hq := sq_at (i := i) (j := x_8) hi (by omega) (by omega); have hb : v_14.toInt = sCh i x_8.toNatClampNeg := congrArg Int32.toInt ev_14; rw [← hb]; exact (i2b_iff (x := z_ch) (by omega) ev_4 (by omega)).mp (by omega))⟩, fun _ => by omega⟩) (Nat.le_of_ble_eq_true rfl) (Nat.le_of_ble_eq_true rfl) dJ1_indexOfChar_4cfef_24
  exact loop_7 (Int.toNat (z_to.toInt - z_from.toInt) + 1) z_from _ _ _ ⟨(by show 0 ≤ z_from.toInt; omega), (by show z_from.toInt ≤ z_from.toInt; omega), (by show z_from.toInt ≤ z_to.toInt; omega), (fun j h1 h2 => absurd h2 (by omega))⟩ (by omega) hw1 (lv_sub hl6 [0, 1, 2, 3, 4, 5] rfl)

set_option maxHeartbeats 4000000 in
set_option maxRecDepth 100000 in
theorem t_wordNumberW (l : Launch) (D : va_G) (cI cJ : ClassId) (sz : Nat) (mr : Nat → Nat) (mi : Nat → Int32) (mf : Nat → Nat → Int32) (mg : Nat → Nat → Int64)  (ad av : Nat → Nat) (tf : Value) (h0 : 0 ≤ (mi 2).toInt ∧ (mi 2).toInt ≤ 400) (h1 : 0 ≤ (mi 4).toInt) (h2 : (mi 4).toInt ≤ (mi 2).toInt) (h3 : 0 ≤ (mi 3).toInt ∧ (mi 3).toInt ≤ 6) (h4 : 0 ≤ (mi 7).toInt) (h5 : (mi 7).toInt ≤ (mi 4).toInt) : Met l yX8_wordNumber (Cond.code yX8_wordNumber cX8_wordNumber 6 (some .int) :: GW) ({ frames := 5, cells := 0, slots := 0, locals := 125 } : Room) (va_Pc [.ref (mr 0)] (PW D cI cJ sz (WZ_Tape cI cJ ad mr mi mf mg) (xT8 ad av tf (va_A (WZ_Tape cI cJ ad mr mi mf mg) sz)))) (va_Qi (fun (r : Int32) (u : Unit) => ((-1) ≤ r.toInt) ∧ (r.toInt ≤ 75) ∧ ((r : Int32).toInt = scnI (mf 1) (mi 7).toInt (mi 4).toInt (sTx (ti (mi 3))) 0 (mi 7).toInt true)) (fun u => QW D cI cJ (va_A (WZ_Tape cI cJ ad mr mi mf mg) sz) ((fun (u : Unit) => (WZ_Tape cI cJ ad mr mi mf mg)) u)) (va_A (WZ_Tape cI cJ ad mr mi mf mg) sz)) 0 0 (va_A (WZ_Tape cI cJ ad mr mi mf mg) sz) := by
  refine mk_metA (X := fun A => xT8 ad av tf A) (y := yX8_wordNumber) (bytes := cX8_wordNumber) (maxL := 6) (avs := [.ref (mr 0)]) (WS := (WZ_Tape cI cJ ad mr mi mf mg)) (Qf := fun A => va_Qi (fun (r : Int32) (u : Unit) => ((-1) ≤ r.toInt) ∧ (r.toInt ≤ 75) ∧ ((r : Int32).toInt = scnI (mf 1) (mi 7).toInt (mi 4).toInt (sTx (ti (mi 3))) 0 (mi 7).toInt true)) (fun u => QW D cI cJ A ((fun (u : Unit) => (WZ_Tape cI cJ ad mr mi mf mg)) u)) A) (by decide) (Nat.le_of_ble_eq_true rfl) ?_
  intro p e s m below meth c A ls E hr hlk hnm hX hw1 hl2
  have hl3 : lv_has ls 6 [(0, .ref (mr 0))] := hl2
  refine lv_iconst (pc := 0) (v := 0) E.1 E.2.1 dX8_wordNumber_0 (by decide +kernel) ?_
  refine lv_istore_n (pc := 1) (lv' := [(1, .int 0), (0, .ref (mr 0))]) E.1 E.2.1 dX8_wordNumber_1 rfl hl3 (by decide) rfl (fun ls hl4 => ?_)
  refine lv_aload_n (pc := 2) E.1 E.2.1 dX8_wordNumber_2 rfl (lv_at hl4 1 rfl) ?_
  refine x_get (pc := 3) (T := TX8) (N := 9) (ci := 8) (v := .int (mi 7)) E hw1 inX8 0 6 q_549 rfl rfl (by decide) rfl rfl dX8_wordNumber_3 ?_
  refine lv_istore_n (pc := 6) (lv' := [(2, .int (mi 7)), (1, .int 0), (0, .ref (mr 0))]) E.1 E.2.1 dX8_wordNumber_6 rfl hl4 (by decide) rfl (fun ls hl5 => ?_)
  refine lv_iconst (pc := 7) (v := 1) E.1 E.2.1 dX8_wordNumber_7 (by decide +kernel) ?_
  refine lv_istore_n (pc := 8) (lv' := [(3, .int 1), (2, .int (mi 7)), (1, .int 0), (0, .ref (mr 0))]) E.1 E.2.1 dX8_wordNumber_8 rfl hl5 (by decide) rfl (fun ls hl6 => ?_)
  refine lv_iconst (pc := 9) (v := 0) E.1 E.2.1 dX8_wordNumber_9 (by decide +kernel) ?_
  refine lv_istore (pc := 10) (lv' := [(4, .int 0), (3, .int 1), (2, .int (mi 7)), (1, .int 0), (0, .ref (mr 0))]) E.1 E.2.1 dX8_wordNumber_10 hl6 (by decide) rfl (fun ls hl7 => ?_)
  have loop_8 : ∀ (k : Nat) (x_9 : Int32) (x_10 : Int32) (x_11 : Int32) (x_12 : Int32) (H : Heap) (locs : List Loc) (ls : Array Slot), (0 ≤ x_12.toInt) ∧ (x_12.toInt ≤ 75) ∧ (0 ≤ x_9.toInt) ∧ (x_9.toInt ≤ x_12.toInt) ∧ ((mi 7).toInt ≤ x_10.toInt) ∧ (x_10.toInt ≤ 400 + x_12.toInt) ∧ (0 ≤ x_11.toInt) ∧ (x_11.toInt ≤ 1) ∧ (SCN (mf 1) (mi 7).toInt (mi 4).toInt (ti (mi 3)) x_12.toInt x_9.toInt x_10.toInt x_11.toInt) → 75 - x_12.toInt < (k : Int) → WD D A s.heap (WZ_Tape cI cJ ad mr mi mf mg) H locs → lv_has ls 6 [(4, .int x_12), (3, .int x_11), (2, .int x_10), (1, .int x_9), (0, .ref (mr 0))] → W p l e ({ frames := 5, cells := 0, slots := 0, locals := 125 } : Room) s m ([.ref (mr 0)] : List Value).toArray below meth c H locs 0 0 (MQ below (va_Qi (fun (r : Int32) (u : Unit) => ((-1) ≤ r.toInt) ∧ (r.toInt ≤ 75) ∧ ((r : Int32).toInt = scnI (mf 1) (mi 7).toInt (mi 4).toInt (sTx (ti (mi 3))) 0 (mi 7).toInt true)) (fun u => QW D cI cJ A ((fun (u : Unit) => (WZ_Tape cI cJ ad mr mi mf mg)) u)) A) ([.ref (mr 0)] : List Value).toArray s 0 0 A) (F0 m 12 ls []) := by
    intro k
    induction k with
    | zero =>
      intro x_9 x_10 x_11 x_12 _ _ _ hinv hm
      obtain ⟨hi_12_0, hi_12_1, hi_12_2, hi_12_3, hi_12_4, hi_12_5, hi_12_6, hi_12_7, hi_12_8⟩ := hinv
      exact absurd hm (by omega)
    | succ k ih_13 =>
      intro x_9 x_10 x_11 x_12 H locs ls hinv hm hw14 hl15
      obtain ⟨hi_12_0, hi_12_1, hi_12_2, hi_12_3, hi_12_4, hi_12_5, hi_12_6, hi_12_7, hi_12_8⟩ := hinv
      refine lv_iload (pc := 12) E.1 E.2.1 dX8_wordNumber_12 (lv_at hl15 0 rfl) ?_
      refine lv_aload_n (pc := 14) E.1 E.2.1 dX8_wordNumber_14 rfl (lv_at hl15 4 rfl) ?_
      refine x_get (pc := 15) (T := TX8) (N := 9) (ci := 8) (v := .ref (ad (ti (mi 3)))) E hw14 inX8 0 2 q_540 rfl rfl (by decide) rfl rfl dX8_wordNumber_15 ?_
      refine cq_i (pc := 18) (ws' := (fun (u : Unit) => (WZ_Tape cI cJ ad mr mi mf mg))) hw14 [] [0, 1] [0, 1] rfl rfl (by decide) (by decide) (fun _ => rfl) (by decide) (rn_VS (As := []) (rest := [.int x_12]) E hw14 (t_length l D cI cJ _ (ixf [] mr) (ixf [] mi) (ixf [] mf) (ixf [] mg) ad av tf (ti (mi 3)) (ti_lt (by omega))) (gdV q_733 q_734 q_735 q_163 q_736) hdV_J0_length_8abf5 ⟨rfl, rfl⟩ ⟨(Nat.le_of_ble_eq_true rfl), (Nat.le_of_ble_eq_true rfl)⟩ ⟨(Nat.le_of_ble_eq_true rfl), (Nat.le_of_ble_eq_true rfl)⟩ xS_b (xS_at hX.1 hw14.2.2.1 (va_free hw14.2.1 hw14.2.2.1 hw14.2.2.2 [] rfl)) hX.1.1 (ti_lt (by omega)) rfl rfl [] rfl (by decide) rfl hl15.1 rfl (Nat.le_of_ble_eq_true rfl) dX8_wordNumber_18) (fun r_17 u_16 H1 locs hp hw18 => ?_)
      generalize H1 = H at hw18 ⊢
      have hw19 : WD D A s.heap (WZ_Tape cI cJ ad mr mi mf mg) H locs := hw18
      obtain ⟨hp_20, hp_21, hp_22⟩ := hp
      have hp_20 : r_17.toInt = (sLen.getD (ti (mi 3)) 0 : Int) := hp_20
      have hp_21 : 0 ≤ r_17.toInt := hp_21
      have hp_22 : r_17.toInt ≤ 75 := hp_22
      refine lv_icmp_ge (pc := 21) (tgt := 107) E.1 E.2.1 dX8_wordNumber_21 (by decide) (fun c_23 => ?_) (fun c_23 => ?_)
      · skip
        have hc_23 := leE (a := r_17.toInt) (b := x_12.toInt) rfl rfl c_23
        refine lv_iload_n (pc := 107) E.1 E.2.1 dX8_wordNumber_107 rfl (lv_at hl15 1 rfl) ?_
        refine lv_if_eq (pc := 108) (tgt := 123) E.1 E.2.1 dX8_wordNumber_108 (by decide) (fun c_24 => ?_) (fun c_24 => ?_)
        · skip
          have hc_24 := eqE (a := x_11.toInt) (b := 0) rfl (by decide +kernel) c_24
          refine lv_iconst (pc := 123) (v := (-1)) E.1 E.2.1 dX8_wordNumber_123 (by decide +kernel) ?_
          exact em_i (w1 := (fun (u : Unit) => (WZ_Tape cI cJ ad mr mi mf mg))) E hr hlk () hw19 ⟨(by show (-1) ≤ ((-1) : Int32).toInt; have k_0 : ((-1) : Int32).toInt = -1 := (by decide +kernel); omega), (by show ((-1) : Int32).toInt ≤ 75; have k_0 : ((-1) : Int32).toInt = -1 := (by decide +kernel); omega), (show ((-1) : Int32).toInt = scnI (mf 1) (mi 7).toInt (mi 4).toInt (sTx (ti (mi 3))) 0 (mi 7).toInt true from (by rw [SCN_end hi_12_8 (ti_lt (by omega)) (by omega), if_neg (by have k1 : (1 : Int32).toInt = 1 := (by decide +kernel); have k0 : (0 : Int32).toInt = 0 := (by decide +kernel); omega)]; decide +kernel))⟩ (Nat.le_of_ble_eq_true rfl) (Nat.le_of_ble_eq_true rfl) dX8_wordNumber_124
        · skip
          have hc_24 := neE (a := x_11.toInt) (b := 0) rfl (by decide +kernel) c_24
          refine lv_iload_n (pc := 111) E.1 E.2.1 dX8_wordNumber_111 rfl (lv_at hl15 2 rfl) ?_
          refine lv_aload_n (pc := 112) E.1 E.2.1 dX8_wordNumber_112 rfl (lv_at hl15 4 rfl) ?_
          refine x_get (pc := 113) (T := TX8) (N := 9) (ci := 8) (v := .int (mi 4)) E hw19 inX8 0 3 q_541 rfl rfl (by decide) rfl rfl dX8_wordNumber_113 ?_
          refine lv_icmp_ne (pc := 116) (tgt := 123) E.1 E.2.1 dX8_wordNumber_116 (by decide) (fun c_25 => ?_) (fun c_25 => ?_)
          · skip
            have hc_25 := neE (a := x_10.toInt) (b := (mi 4).toInt) rfl rfl c_25
            refine lv_iconst (pc := 123) (v := (-1)) E.1 E.2.1 dX8_wordNumber_123 (by decide +kernel) ?_
            exact em_i (w1 := (fun (u : Unit) => (WZ_Tape cI cJ ad mr mi mf mg))) E hr hlk () hw19 ⟨(by show (-1) ≤ ((-1) : Int32).toInt; have k_0 : ((-1) : Int32).toInt = -1 := (by decide +kernel); omega), (by show ((-1) : Int32).toInt ≤ 75; have k_0 : ((-1) : Int32).toInt = -1 := (by decide +kernel); omega), (show ((-1) : Int32).toInt = scnI (mf 1) (mi 7).toInt (mi 4).toInt (sTx (ti (mi 3))) 0 (mi 7).toInt true from (by rw [SCN_end hi_12_8 (ti_lt (by omega)) (by omega), if_neg (by have k1 : (1 : Int32).toInt = 1 := (by decide +kernel); have k0 : (0 : Int32).toInt = 0 := (by decide +kernel); omega)]; decide +kernel))⟩ (Nat.le_of_ble_eq_true rfl) (Nat.le_of_ble_eq_true rfl) dX8_wordNumber_124
          · skip
            have hc_25 := eqE (a := x_10.toInt) (b := (mi 4).toInt) rfl rfl c_25
            refine lv_iload_n (pc := 119) E.1 E.2.1 dX8_wordNumber_119 rfl (lv_at hl15 3 rfl) ?_
            refine lv_goto (pc := 120) (tgt := 124) E.1 E.2.1 dX8_wordNumber_120 (by decide) ?_
            exact em_i (w1 := (fun (u : Unit) => (WZ_Tape cI cJ ad mr mi mf mg))) E hr hlk () hw19 ⟨(by show (-1) ≤ x_9.toInt; omega), (by show x_9.toInt ≤ 75; omega), (show (x_9 : Int32).toInt = scnI (mf 1) (mi 7).toInt (mi 4).toInt (sTx (ti (mi 3))) 0 (mi 7).toInt true from (by rw [SCN_end hi_12_8 (ti_lt (by omega)) (by omega), if_pos ⟨by omega, by omega⟩]))⟩ (Nat.le_of_ble_eq_true rfl) (Nat.le_of_ble_eq_true rfl) dX8_wordNumber_124
      · skip
        have hc_23 := nleE (a := r_17.toInt) (b := x_12.toInt) rfl rfl c_23
        refine lv_aload_n (pc := 24) E.1 E.2.1 dX8_wordNumber_24 rfl (lv_at hl15 4 rfl) ?_
        refine x_get (pc := 25) (T := TX8) (N := 9) (ci := 8) (v := .ref (ad (ti (mi 3)))) E hw19 inX8 0 2 q_540 rfl rfl (by decide) rfl rfl dX8_wordNumber_25 ?_
        refine lv_iload (pc := 28) E.1 E.2.1 dX8_wordNumber_28 (lv_at hl15 0 rfl) ?_
        refine cq_i (pc := 30) (ws' := (fun (u : Unit) => (WZ_Tape cI cJ ad mr mi mf mg))) hw19 [] [0, 1] [0, 1] rfl rfl (by decide) (by decide) (fun _ => rfl) (by decide) (rn_VS (As := [.int x_12]) (rest := []) E hw19 (t_charAtW l D cI cJ _ (ixf [] mr) (ixf [] mi) (ixf [] mf) (ixf [] mg) x_12 ad av tf (ti (mi 3)) (ti_lt (by omega)) (by show 0 ≤ x_12.toInt; omega) (by show x_12.toInt + 1 ≤ (sLen.getD (ti (mi 3)) 0 : Int); omega)) (gdV q_743 q_744 q_745 q_163 q_746) hdV_J0_charAt_5068e ⟨rfl, rfl⟩ ⟨(Nat.le_of_ble_eq_true rfl), (Nat.le_of_ble_eq_true rfl)⟩ ⟨(Nat.le_of_ble_eq_true rfl), (Nat.le_of_ble_eq_true rfl)⟩ xS_b (xS_at hX.1 hw19.2.2.1 (va_free hw19.2.1 hw19.2.2.1 hw19.2.2.2 [] rfl)) hX.1.1 (ti_lt (by omega)) rfl rfl [] rfl (by decide) rfl hl15.1 rfl (Nat.le_of_ble_eq_true rfl) dX8_wordNumber_30) (fun r_27 u_26 H1 locs hp hw28 => ?_)
        generalize H1 = H at hw28 ⊢
        have hw29 : WD D A s.heap (WZ_Tape cI cJ ad mr mi mf mg) H locs := hw28
        obtain ⟨hp_30, hp_31, hp_32⟩ := hp
        have hp_30 : 0 ≤ r_27.toInt := hp_30
        have hp_31 : r_27.toInt ≤ 65535 := hp_31
        have hp_32 : (r_27 : Int32).toInt = sCh (ti (mi 3)) (x_12).toNatClampNeg := hp_32
        refine lv_istore (pc := 33) (lv' := [(5, .int r_27), (4, .int x_12), (3, .int x_11), (2, .int x_10), (1, .int x_9), (0, .ref (mr 0))]) E.1 E.2.1 dX8_wordNumber_33 hl15 (by decide) rfl (fun ls hl33 => ?_)
        refine lv_iload (pc := 35) E.1 E.2.1 dX8_wordNumber_35 (lv_at hl33 0 rfl) ?_
        refine lv_bipush (pc := 37) (v := 32) E.1 E.2.1 dX8_wordNumber_37 (by decide +kernel) ?_
        refine lv_icmp_eq (pc := 39) (tgt := 77) E.1 E.2.1 dX8_wordNumber_39 (by decide) (fun c_34 => ?_) (fun c_34 => ?_)
        · skip
          have hc_34 := eqE (a := r_27.toInt) (b := 32) rfl (by decide +kernel) c_34
          refine lv_iload_n (pc := 77) E.1 E.2.1 dX8_wordNumber_77 rfl (lv_at hl33 2 rfl) ?_
          refine lv_if_eq (pc := 78) (tgt := 91) E.1 E.2.1 dX8_wordNumber_78 (by decide) (fun c_35 => ?_) (fun c_35 => ?_)
          · skip
            have hc_35 := eqE (a := x_11.toInt) (b := 0) rfl (by decide +kernel) c_35
            obtain ⟨v_36, ev_36⟩ : ∃ z : Int32, x_9 + Int32.ofInt (1) = z := ⟨_, rfl⟩
            have hv_36 : v_36.toInt = x_9.toInt + (1) := by rw [← ev_36]; exact incE rfl (by decide) (by omega)
            refine lv_iinc (pc := 91) (v := v_36) (lv' := [(1, .int v_36), (5, .int r_27), (4, .int x_12), (3, .int x_11), (2, .int x_10), (0, .ref (mr 0))]) E.1 E.2.1 dX8_wordNumber_91 hl33 (k := 4) rfl ev_36 (by decide) rfl (fun ls hl37 => ?_)
            refine lv_aload_n (pc := 94) E.1 E.2.1 dX8_wordNumber_94 rfl (lv_at hl37 5 rfl) ?_
            refine x_get (pc := 95) (T := TX8) (N := 9) (ci := 8) (v := .int (mi 7)) E hw29 inX8 0 6 q_549 rfl rfl (by decide) rfl rfl dX8_wordNumber_95 ?_
            refine lv_istore_n (pc := 98) (lv' := [(2, .int (mi 7)), (1, .int v_36), (5, .int r_27), (4, .int x_12), (3, .int x_11), (0, .ref (mr 0))]) E.1 E.2.1 dX8_wordNumber_98 rfl hl37 (by decide) rfl (fun ls hl38 => ?_)
            refine lv_iconst (pc := 99) (v := 1) E.1 E.2.1 dX8_wordNumber_99 (by decide +kernel) ?_
            refine lv_istore_n (pc := 100) (lv' := [(3, .int 1), (2, .int (mi 7)), (1, .int v_36), (5, .int r_27), (4, .int x_12), (0, .ref (mr 0))]) E.1 E.2.1 dX8_wordNumber_100 rfl hl38 (by decide) rfl (fun ls hl39 => ?_)
            obtain ⟨v_40, ev_40⟩ : ∃ z : Int32, x_12 + Int32.ofInt (1) = z := ⟨_, rfl⟩
            have hv_40 : v_40.toInt = x_12.toInt + (1) := by rw [← ev_40]; exact incE rfl (by decide) (by omega)
            refine lv_iinc (pc := 101) (v := v_40) (lv' := [(4, .int v_40), (3, .int 1), (2, .int (mi 7)), (1, .int v_36), (5, .int r_27), (0, .ref (mr 0))]) E.1 E.2.1 dX8_wordNumber_101 hl39 (k := 4) rfl ev_40 (by decide) rfl (fun ls hl41 => ?_)
            refine lv_goto (pc := 104) (tgt := 12) E.1 E.2.1 dX8_wordNumber_104 (by decide) ?_
            exact ih_13 v_36 (mi 7) 1 v_40 _ _ _ ⟨(by show 0 ≤ v_40.toInt; omega), (by show v_40.toInt ≤ 75; omega), (by show 0 ≤ v_36.toInt; omega), (by show v_36.toInt ≤ v_40.toInt; omega), (by show (mi 7).toInt ≤ (mi 7).toInt; omega), (by show (mi 7).toInt ≤ 400 + v_40.toInt; omega), (by show 0 ≤ (1 : Int32).toInt; have k_0 : (1 : Int32).toInt = 1 := (by decide +kernel); omega), (by show (1 : Int32).toInt ≤ 1; have k_0 : (1 : Int32).toInt = 1 := (by decide +kernel); omega), (SCN_sp hi_12_8 (ti_lt (by omega)) (by omega) (by omega) (c := r_27.toInt) (by have q := idxI (x := x_12) (by omega); rw [show x_12.toInt.toNat = x_12.toNatClampNeg from by omega]; exact hp_32) (by omega) (by have k1 : (1 : Int32).toInt = 1 := (by decide +kernel); have k0 : (0 : Int32).toInt = 0 := (by decide +kernel); omega) (by omega) (by omega))⟩ (by have k_0 : (1 : Int32).toInt = 1 := (by decide +kernel); omega) hw29 (lv_sub hl41 [0, 1, 2, 3, 5] rfl)
          · skip
            have hc_35 := neE (a := x_11.toInt) (b := 0) rfl (by decide +kernel) c_35
            refine lv_iload_n (pc := 81) E.1 E.2.1 dX8_wordNumber_81 rfl (lv_at hl33 3 rfl) ?_
            refine lv_aload_n (pc := 82) E.1 E.2.1 dX8_wordNumber_82 rfl (lv_at hl33 5 rfl) ?_
            refine x_get (pc := 83) (T := TX8) (N := 9) (ci := 8) (v := .int (mi 4)) E hw29 inX8 0 3 q_541 rfl rfl (by decide) rfl rfl dX8_wordNumber_83 ?_
            refine lv_icmp_ne (pc := 86) (tgt := 91) E.1 E.2.1 dX8_wordNumber_86 (by decide) (fun c_42 => ?_) (fun c_42 => ?_)
            · skip
              have hc_42 := neE (a := x_10.toInt) (b := (mi 4).toInt) rfl rfl c_42
              obtain ⟨v_43, ev_43⟩ : ∃ z : Int32, x_9 + Int32.ofInt (1) = z := ⟨_, rfl⟩
              have hv_43 : v_43.toInt = x_9.toInt + (1) := by rw [← ev_43]; exact incE rfl (by decide) (by omega)
              refine lv_iinc (pc := 91) (v := v_43) (lv' := [(1, .int v_43), (5, .int r_27), (4, .int x_12), (3, .int x_11), (2, .int x_10), (0, .ref (mr 0))]) E.1 E.2.1 dX8_wordNumber_91 hl33 (k := 4) rfl ev_43 (by decide) rfl (fun ls hl44 => ?_)
              refine lv_aload_n (pc := 94) E.1 E.2.1 dX8_wordNumber_94 rfl (lv_at hl44 5 rfl) ?_
              refine x_get (pc := 95) (T := TX8) (N := 9) (ci := 8) (v := .int (mi 7)) E hw29 inX8 0 6 q_549 rfl rfl (by decide) rfl rfl dX8_wordNumber_95 ?_
              refine lv_istore_n (pc := 98) (lv' := [(2, .int (mi 7)), (1, .int v_43), (5, .int r_27), (4, .int x_12), (3, .int x_11), (0, .ref (mr 0))]) E.1 E.2.1 dX8_wordNumber_98 rfl hl44 (by decide) rfl (fun ls hl45 => ?_)
              refine lv_iconst (pc := 99) (v := 1) E.1 E.2.1 dX8_wordNumber_99 (by decide +kernel) ?_
              refine lv_istore_n (pc := 100) (lv' := [(3, .int 1), (2, .int (mi 7)), (1, .int v_43), (5, .int r_27), (4, .int x_12), (0, .ref (mr 0))]) E.1 E.2.1 dX8_wordNumber_100 rfl hl45 (by decide) rfl (fun ls hl46 => ?_)
              obtain ⟨v_47, ev_47⟩ : ∃ z : Int32, x_12 + Int32.ofInt (1) = z := ⟨_, rfl⟩
              have hv_47 : v_47.toInt = x_12.toInt + (1) := by rw [← ev_47]; exact incE rfl (by decide) (by omega)
              refine lv_iinc (pc := 101) (v := v_47) (lv' := [(4, .int v_47), (3, .int 1), (2, .int (mi 7)), (1, .int v_43), (5, .int r_27), (0, .ref (mr 0))]) E.1 E.2.1 dX8_wordNumber_101 hl46 (k := 4) rfl ev_47 (by decide) rfl (fun ls hl48 => ?_)
              refine lv_goto (pc := 104) (tgt := 12) E.1 E.2.1 dX8_wordNumber_104 (by decide) ?_
              exact ih_13 v_43 (mi 7) 1 v_47 _ _ _ ⟨(by show 0 ≤ v_47.toInt; omega), (by show v_47.toInt ≤ 75; omega), (by show 0 ≤ v_43.toInt; omega), (by show v_43.toInt ≤ v_47.toInt; omega), (by show (mi 7).toInt ≤ (mi 7).toInt; omega), (by show (mi 7).toInt ≤ 400 + v_47.toInt; omega), (by show 0 ≤ (1 : Int32).toInt; have k_0 : (1 : Int32).toInt = 1 := (by decide +kernel); omega), (by show (1 : Int32).toInt ≤ 1; have k_0 : (1 : Int32).toInt = 1 := (by decide +kernel); omega), (SCN_sp hi_12_8 (ti_lt (by omega)) (by omega) (by omega) (c := r_27.toInt) (by have q := idxI (x := x_12) (by omega); rw [show x_12.toInt.toNat = x_12.toNatClampNeg from by omega]; exact hp_32) (by omega) (by have k1 : (1 : Int32).toInt = 1 := (by decide +kernel); have k0 : (0 : Int32).toInt = 0 := (by decide +kernel); omega) (by omega) (by omega))⟩ (by have k_0 : (1 : Int32).toInt = 1 := (by decide +kernel); omega) hw29 (lv_sub hl48 [0, 1, 2, 3, 5] rfl)
            · skip
              have hc_42 := eqE (a := x_10.toInt) (b := (mi 4).toInt) rfl rfl c_42
              refine lv_iload_n (pc := 89) E.1 E.2.1 dX8_wordNumber_89 rfl (lv_at hl33 4 rfl) ?_
              exact em_i (w1 := (fun (u : Unit) => (WZ_Tape cI cJ ad mr mi mf mg))) E hr hlk () hw29 ⟨(by show (-1) ≤ x_9.toInt; omega), (by show x_9.toInt ≤ 75; omega), (show (x_9 : Int32).toInt = scnI (mf 1) (mi 7).toInt (mi 4).toInt (sTx (ti (mi 3))) 0 (mi 7).toInt true from (SCN_hit hi_12_8 (ti_lt (by omega)) (by omega) (by omega) (c := r_27.toInt) (by have q := idxI (x := x_12) (by omega); rw [show x_12.toInt.toNat = x_12.toNatClampNeg from by omega]; exact hp_32) (by omega) ⟨by omega, by omega⟩))⟩ (Nat.le_of_ble_eq_true rfl) (Nat.le_of_ble_eq_true rfl) dX8_wordNumber_90
        · skip
          have hc_34 := neE (a := r_27.toInt) (b := 32) rfl (by decide +kernel) c_34
          refine lv_iload_n (pc := 42) E.1 E.2.1 dX8_wordNumber_42 rfl (lv_at hl33 2 rfl) ?_
          refine lv_if_eq (pc := 43) (tgt := 69) E.1 E.2.1 dX8_wordNumber_43 (by decide) (fun c_49 => ?_) (fun c_49 => ?_)
          · skip
            have hc_49 := eqE (a := x_11.toInt) (b := 0) rfl (by decide +kernel) c_49
            refine lv_iconst (pc := 69) (v := 0) E.1 E.2.1 dX8_wordNumber_69 (by decide +kernel) ?_
            refine lv_istore_n (pc := 70) (lv' := [(3, .int 0), (5, .int r_27), (4, .int x_12), (2, .int x_10), (1, .int x_9), (0, .ref (mr 0))]) E.1 E.2.1 dX8_wordNumber_70 rfl hl33 (by decide) rfl (fun ls hl50 => ?_)
            obtain ⟨v_51, ev_51⟩ : ∃ z : Int32, x_10 + Int32.ofInt (1) = z := ⟨_, rfl⟩
            have hv_51 : v_51.toInt = x_10.toInt + (1) := by rw [← ev_51]; exact incE rfl (by decide) (by omega)
            refine lv_iinc (pc := 71) (v := v_51) (lv' := [(2, .int v_51), (3, .int 0), (5, .int r_27), (4, .int x_12), (1, .int x_9), (0, .ref (mr 0))]) E.1 E.2.1 dX8_wordNumber_71 hl50 (k := 3) rfl ev_51 (by decide) rfl (fun ls hl52 => ?_)
            refine lv_goto (pc := 74) (tgt := 101) E.1 E.2.1 dX8_wordNumber_74 (by decide) ?_
            obtain ⟨v_53, ev_53⟩ : ∃ z : Int32, x_12 + Int32.ofInt (1) = z := ⟨_, rfl⟩
            have hv_53 : v_53.toInt = x_12.toInt + (1) := by rw [← ev_53]; exact incE rfl (by decide) (by omega)
            refine lv_iinc (pc := 101) (v := v_53) (lv' := [(4, .int v_53), (2, .int v_51), (3, .int 0), (5, .int r_27), (1, .int x_9), (0, .ref (mr 0))]) E.1 E.2.1 dX8_wordNumber_101 hl52 (k := 3) rfl ev_53 (by decide) rfl (fun ls hl54 => ?_)
            refine lv_goto (pc := 104) (tgt := 12) E.1 E.2.1 dX8_wordNumber_104 (by decide) ?_
            exact ih_13 x_9 v_51 0 v_53 _ _ _ ⟨(by show 0 ≤ v_53.toInt; omega), (by show v_53.toInt ≤ 75; omega), (by show 0 ≤ x_9.toInt; omega), (by show x_9.toInt ≤ v_53.toInt; omega), (by show (mi 7).toInt ≤ v_51.toInt; omega), (by show v_51.toInt ≤ 400 + v_53.toInt; omega), (by show 0 ≤ (0 : Int32).toInt; have k_0 : (0 : Int32).toInt = 0 := (by decide +kernel); omega), (by show (0 : Int32).toInt ≤ 1; have k_0 : (0 : Int32).toInt = 0 := (by decide +kernel); omega), (SCN_let hi_12_8 (ti_lt (by omega)) (by omega) (by omega) (c := r_27.toInt) (by have q := idxI (x := x_12) (by omega); rw [show x_12.toInt.toNat = x_12.toNatClampNeg from by omega]; exact hp_32) (by omega) (by omega) (by omega) ⟨fun z => absurd z (by decide +kernel), by rintro ⟨h1, h2, h3⟩;  omega⟩)⟩ (by have k_0 : (0 : Int32).toInt = 0 := (by decide +kernel); omega) hw29 (lv_sub hl54 [0, 2, 1, 4, 5] rfl)
          · skip
            have hc_49 := neE (a := x_11.toInt) (b := 0) rfl (by decide +kernel) c_49
            refine lv_iload_n (pc := 46) E.1 E.2.1 dX8_wordNumber_46 rfl (lv_at hl33 3 rfl) ?_
            refine lv_aload_n (pc := 47) E.1 E.2.1 dX8_wordNumber_47 rfl (lv_at hl33 5 rfl) ?_
            refine x_get (pc := 48) (T := TX8) (N := 9) (ci := 8) (v := .int (mi 4)) E hw29 inX8 0 3 q_541 rfl rfl (by decide) rfl rfl dX8_wordNumber_48 ?_
            refine lv_icmp_ge (pc := 51) (tgt := 69) E.1 E.2.1 dX8_wordNumber_51 (by decide) (fun c_55 => ?_) (fun c_55 => ?_)
            · skip
              have hc_55 := leE (a := (mi 4).toInt) (b := x_10.toInt) rfl rfl c_55
              refine lv_iconst (pc := 69) (v := 0) E.1 E.2.1 dX8_wordNumber_69 (by decide +kernel) ?_
              refine lv_istore_n (pc := 70) (lv' := [(3, .int 0), (5, .int r_27), (4, .int x_12), (2, .int x_10), (1, .int x_9), (0, .ref (mr 0))]) E.1 E.2.1 dX8_wordNumber_70 rfl hl33 (by decide) rfl (fun ls hl56 => ?_)
              obtain ⟨v_57, ev_57⟩ : ∃ z : Int32, x_10 + Int32.ofInt (1) = z := ⟨_, rfl⟩
              have hv_57 : v_57.toInt = x_10.toInt + (1) := by rw [← ev_57]; exact incE rfl (by decide) (by omega)
              refine lv_iinc (pc := 71) (v := v_57) (lv' := [(2, .int v_57), (3, .int 0), (5, .int r_27), (4, .int x_12), (1, .int x_9), (0, .ref (mr 0))]) E.1 E.2.1 dX8_wordNumber_71 hl56 (k := 3) rfl ev_57 (by decide) rfl (fun ls hl58 => ?_)
              refine lv_goto (pc := 74) (tgt := 101) E.1 E.2.1 dX8_wordNumber_74 (by decide) ?_
              obtain ⟨v_59, ev_59⟩ : ∃ z : Int32, x_12 + Int32.ofInt (1) = z := ⟨_, rfl⟩
              have hv_59 : v_59.toInt = x_12.toInt + (1) := by rw [← ev_59]; exact incE rfl (by decide) (by omega)
              refine lv_iinc (pc := 101) (v := v_59) (lv' := [(4, .int v_59), (2, .int v_57), (3, .int 0), (5, .int r_27), (1, .int x_9), (0, .ref (mr 0))]) E.1 E.2.1 dX8_wordNumber_101 hl58 (k := 3) rfl ev_59 (by decide) rfl (fun ls hl60 => ?_)
              refine lv_goto (pc := 104) (tgt := 12) E.1 E.2.1 dX8_wordNumber_104 (by decide) ?_
              exact ih_13 x_9 v_57 0 v_59 _ _ _ ⟨(by show 0 ≤ v_59.toInt; omega), (by show v_59.toInt ≤ 75; omega), (by show 0 ≤ x_9.toInt; omega), (by show x_9.toInt ≤ v_59.toInt; omega), (by show (mi 7).toInt ≤ v_57.toInt; omega), (by show v_57.toInt ≤ 400 + v_59.toInt; omega), (by show 0 ≤ (0 : Int32).toInt; have k_0 : (0 : Int32).toInt = 0 := (by decide +kernel); omega), (by show (0 : Int32).toInt ≤ 1; have k_0 : (0 : Int32).toInt = 0 := (by decide +kernel); omega), (SCN_let hi_12_8 (ti_lt (by omega)) (by omega) (by omega) (c := r_27.toInt) (by have q := idxI (x := x_12) (by omega); rw [show x_12.toInt.toNat = x_12.toNatClampNeg from by omega]; exact hp_32) (by omega) (by omega) (by omega) ⟨fun z => absurd z (by decide +kernel), by rintro ⟨h1, h2, h3⟩;  omega⟩)⟩ (by have k_0 : (0 : Int32).toInt = 0 := (by decide +kernel); omega) hw29 (lv_sub hl60 [0, 2, 1, 4, 5] rfl)
            · skip
              have hc_55 := nleE (a := (mi 4).toInt) (b := x_10.toInt) rfl rfl c_55
              refine lv_aload_n (pc := 54) E.1 E.2.1 dX8_wordNumber_54 rfl (lv_at hl33 5 rfl) ?_
              refine x_get (pc := 55) (T := TX8) (N := 9) (ci := 8) (v := .ref (mr 1)) E hw29 inX8 0 0 q_537 rfl rfl (by decide) rfl rfl dX8_wordNumber_55 ?_
              refine lv_iload_n (pc := 58) E.1 E.2.1 dX8_wordNumber_58 rfl (lv_at hl33 3 rfl) ?_
              refine x_iald (pc := 59) (f := (mf 1)) E hw29 1 rfl (inbE (a := x_10.toInt) rfl (by omega)) dX8_wordNumber_59 ?_
              refine lv_topi (fun v_61 ev_61 => ?_)
              refine lv_iload (pc := 60) E.1 E.2.1 dX8_wordNumber_60 (lv_at hl33 0 rfl) ?_
              refine lv_icmp_ne (pc := 62) (tgt := 69) E.1 E.2.1 dX8_wordNumber_62 (by decide) (fun c_62 => ?_) (fun c_62 => ?_)
              · skip
                have hc_62 := neE (a := v_61.toInt) (b := r_27.toInt) rfl rfl c_62
                refine lv_iconst (pc := 69) (v := 0) E.1 E.2.1 dX8_wordNumber_69 (by decide +kernel) ?_
                refine lv_istore_n (pc := 70) (lv' := [(3, .int 0), (5, .int r_27), (4, .int x_12), (2, .int x_10), (1, .int x_9), (0, .ref (mr 0))]) E.1 E.2.1 dX8_wordNumber_70 rfl hl33 (by decide) rfl (fun ls hl63 => ?_)
                obtain ⟨v_64, ev_64⟩ : ∃ z : Int32, x_10 + Int32.ofInt (1) = z := ⟨_, rfl⟩
                have hv_64 : v_64.toInt = x_10.toInt + (1) := by rw [← ev_64]; exact incE rfl (by decide) (by omega)
                refine lv_iinc (pc := 71) (v := v_64) (lv' := [(2, .int v_64), (3, .int 0), (5, .int r_27), (4, .int x_12), (1, .int x_9), (0, .ref (mr 0))]) E.1 E.2.1 dX8_wordNumber_71 hl63 (k := 3) rfl ev_64 (by decide) rfl (fun ls hl65 => ?_)
                refine lv_goto (pc := 74) (tgt := 101) E.1 E.2.1 dX8_wordNumber_74 (by decide) ?_
                obtain ⟨v_66, ev_66⟩ : ∃ z : Int32, x_12 + Int32.ofInt (1) = z := ⟨_, rfl⟩
                have hv_66 : v_66.toInt = x_12.toInt + (1) := by rw [← ev_66]; exact incE rfl (by decide) (by omega)
                refine lv_iinc (pc := 101) (v := v_66) (lv' := [(4, .int v_66), (2, .int v_64), (3, .int 0), (5, .int r_27), (1, .int x_9), (0, .ref (mr 0))]) E.1 E.2.1 dX8_wordNumber_101 hl65 (k := 3) rfl ev_66 (by decide) rfl (fun ls hl67 => ?_)
                refine lv_goto (pc := 104) (tgt := 12) E.1 E.2.1 dX8_wordNumber_104 (by decide) ?_
                exact ih_13 x_9 v_64 0 v_66 _ _ _ ⟨(by show 0 ≤ v_66.toInt; omega), (by show v_66.toInt ≤ 75; omega), (by show 0 ≤ x_9.toInt; omega), (by show x_9.toInt ≤ v_66.toInt; omega), (by show (mi 7).toInt ≤ v_64.toInt; omega), (by show v_64.toInt ≤ 400 + v_66.toInt; omega), (by show 0 ≤ (0 : Int32).toInt; have k_0 : (0 : Int32).toInt = 0 := (by decide +kernel); omega), (by show (0 : Int32).toInt ≤ 1; have k_0 : (0 : Int32).toInt = 0 := (by decide +kernel); omega), (SCN_let hi_12_8 (ti_lt (by omega)) (by omega) (by omega) (c := r_27.toInt) (by have q := idxI (x := x_12) (by omega); rw [show x_12.toInt.toNat = x_12.toNatClampNeg from by omega]; exact hp_32) (by omega) (by omega) (by omega) ⟨fun z => absurd z (by decide +kernel), by rintro ⟨h1, h2, h3⟩; have q := idxI (x := x_10) (by omega); rw [show x_10.toInt.toNat = x_10.toNatClampNeg from by omega, ← ev_61] at h3;  omega⟩)⟩ (by have k_0 : (0 : Int32).toInt = 0 := (by decide +kernel); omega) hw29 (lv_sub hl67 [0, 2, 1, 4, 5] rfl)
              · skip
                have hc_62 := eqE (a := v_61.toInt) (b := r_27.toInt) rfl rfl c_62
                refine lv_iconst (pc := 65) (v := 1) E.1 E.2.1 dX8_wordNumber_65 (by decide +kernel) ?_
                refine lv_goto (pc := 66) (tgt := 70) E.1 E.2.1 dX8_wordNumber_66 (by decide) ?_
                refine lv_istore_n (pc := 70) (lv' := [(3, .int 1), (5, .int r_27), (4, .int x_12), (2, .int x_10), (1, .int x_9), (0, .ref (mr 0))]) E.1 E.2.1 dX8_wordNumber_70 rfl hl33 (by decide) rfl (fun ls hl68 => ?_)
                obtain ⟨v_69, ev_69⟩ : ∃ z : Int32, x_10 + Int32.ofInt (1) = z := ⟨_, rfl⟩
                have hv_69 : v_69.toInt = x_10.toInt + (1) := by rw [← ev_69]; exact incE rfl (by decide) (by omega)
                refine lv_iinc (pc := 71) (v := v_69) (lv' := [(2, .int v_69), (3, .int 1), (5, .int r_27), (4, .int x_12), (1, .int x_9), (0, .ref (mr 0))]) E.1 E.2.1 dX8_wordNumber_71 hl68 (k := 3) rfl ev_69 (by decide) rfl (fun ls hl70 => ?_)
                refine lv_goto (pc := 74) (tgt := 101) E.1 E.2.1 dX8_wordNumber_74 (by decide) ?_
                obtain ⟨v_71, ev_71⟩ : ∃ z : Int32, x_12 + Int32.ofInt (1) = z := ⟨_, rfl⟩
                have hv_71 : v_71.toInt = x_12.toInt + (1) := by rw [← ev_71]; exact incE rfl (by decide) (by omega)
                refine lv_iinc (pc := 101) (v := v_71) (lv' := [(4, .int v_71), (2, .int v_69), (3, .int 1), (5, .int r_27), (1, .int x_9), (0, .ref (mr 0))]) E.1 E.2.1 dX8_wordNumber_101 hl70 (k := 3) rfl ev_71 (by decide) rfl (fun ls hl72 => ?_)
                refine lv_goto (pc := 104) (tgt := 12) E.1 E.2.1 dX8_wordNumber_104 (by decide) ?_
                exact ih_13 x_9 v_69 1 v_71 _ _ _ ⟨(by show 0 ≤ v_71.toInt; omega), (by show v_71.toInt ≤ 75; omega), (by show 0 ≤ x_9.toInt; omega), (by show x_9.toInt ≤ v_71.toInt; omega), (by show (mi 7).toInt ≤ v_69.toInt; omega), (by show v_69.toInt ≤ 400 + v_71.toInt; omega), (by show 0 ≤ (1 : Int32).toInt; have k_0 : (1 : Int32).toInt = 1 := (by decide +kernel); omega), (by show (1 : Int32).toInt ≤ 1; have k_0 : (1 : Int32).toInt = 1 := (by decide +kernel); omega), (SCN_let hi_12_8 (ti_lt (by omega)) (by omega) (by omega) (c := r_27.toInt) (by have q := idxI (x := x_12) (by omega); rw [show x_12.toInt.toNat = x_12.toNatClampNeg from by omega]; exact hp_32) (by omega) (by omega) (by omega) ⟨fun _ => ⟨by omega, by omega, by have q := idxI (x := x_10) (by omega); rw [show x_10.toInt.toNat = x_10.toNatClampNeg from by omega, ← ev_61]; omega⟩, fun _ => by decide +kernel⟩)⟩ (by have k_0 : (1 : Int32).toInt = 1 := (by decide +kernel); omega) hw29 (lv_sub hl72 [0, 2, 1, 4, 5] rfl)
  exact loop_8 (Int.toNat (75 - 0) + 1) 0 (mi 7) 1 0 _ _ _ ⟨(by show 0 ≤ (0 : Int32).toInt; have k_0 : (0 : Int32).toInt = 0 := (by decide +kernel); omega), (by show (0 : Int32).toInt ≤ 75; have k_0 : (0 : Int32).toInt = 0 := (by decide +kernel); omega), (by show 0 ≤ (0 : Int32).toInt; have k_0 : (0 : Int32).toInt = 0 := (by decide +kernel); omega), (by show (0 : Int32).toInt ≤ (0 : Int32).toInt; have k_0 : (0 : Int32).toInt = 0 := (by decide +kernel); omega), (by show (mi 7).toInt ≤ (mi 7).toInt; omega), (by show (mi 7).toInt ≤ 400 + (0 : Int32).toInt; have k_0 : (0 : Int32).toInt = 0 := (by decide +kernel); omega), (by show 0 ≤ (1 : Int32).toInt; have k_0 : (1 : Int32).toInt = 1 := (by decide +kernel); omega), (by show (1 : Int32).toInt ≤ 1; have k_0 : (1 : Int32).toInt = 1 := (by decide +kernel); omega), (SCN_init (by decide +kernel) (by decide +kernel) rfl (by decide +kernel))⟩ (by have k_0 : (0 : Int32).toInt = 0 := (by decide +kernel); have k_2 : (1 : Int32).toInt = 1 := (by decide +kernel); have k_3 : (0 : Int32).toInt = 0 := (by decide +kernel); omega) hw1 (lv_sub hl7 [0, 1, 2, 3, 4] rfl)

