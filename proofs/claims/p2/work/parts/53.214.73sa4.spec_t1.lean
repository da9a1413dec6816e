set_option maxHeartbeats 4000000 in
set_option maxRecDepth 100000 in
theorem s_isLetterT (l : Launch) (D : va_G) (cI cJ : ClassId) (sz M : Nat) (mr : Nat → Nat) (mi : Nat → Int32) (mf : Nat → Nat → Int32) (mg : Nat → Nat → Int64) (z_c : Int32)  : Met l yX12_isLetter (Cond.code yX12_isLetter cX12_isLetter 2 (some .boolean) :: GW) ({ frames := 2, cells := 0, slots := 0, locals := 63 } : Room) (va_Pc [.ref M, .int z_c] (PW D cI cJ sz (MW cI cJ M mr mi mf mg) xT)) (va_Qi (fun (r : Int32) (u : Unit) => ((r = 1 ∧ 97 ≤ z_c.toInt ∧ z_c.toInt ≤ 122) ∨ (r = 1 ∧ 65 ≤ z_c.toInt ∧ z_c.toInt ≤ 90) ∨ (r = 0 ∧ z_c.toInt ≤ 64) ∨ (r = 0 ∧ 91 ≤ z_c.toInt ∧ z_c.toInt ≤ 96) ∨ (r = 0 ∧ 123 ≤ z_c.toInt))) (fun u => QW D cI cJ (va_A (MW cI cJ M mr mi mf mg) sz) ((fun (u : Unit) => (MW cI cJ M mr mi mf mg)) u)) (va_A (MW cI cJ M mr mi mf mg) sz)) 0 0 (va_A (MW cI cJ M mr mi mf mg) sz) := by
  refine mk_met (y := yX12_isLetter) (bytes := cX12_isLetter) (maxL := 2) (avs := [.ref M, .int z_c]) (WS := (MW cI cJ M mr mi mf mg)) (Qf := fun A => va_Qi (fun (r : Int32) (u : Unit) => ((r = 1 ∧ 97 ≤ z_c.toInt ∧ z_c.toInt ≤ 122) ∨ (r = 1 ∧ 65 ≤ z_c.toInt ∧ z_c.toInt ≤ 90) ∨ (r = 0 ∧ z_c.toInt ≤ 64) ∨ (r = 0 ∧ 91 ≤ z_c.toInt ∧ z_c.toInt ≤ 96) ∨ (r = 0 ∧ 123 ≤ z_c.toInt))) (fun u => QW D cI cJ A ((fun (u : Unit) => (MW cI cJ M mr mi mf mg)) u)) A) (by decide) (Nat.le_of_ble_eq_true rfl) ?_
  intro p e s m below meth c A ls E hr hlk hnm hX hw1 hl2
  have hl3 : lv_has ls 2 [(0, .ref M), (1, .int z_c)] := hl2
  refine lv_aload_n (pc := 0) E.1 E.2.1 dX12_isLetter_0 rfl (lv_at hl3 0 rfl) ?_
  refine lv_iload_n (pc := 1) E.1 E.2.1 dX12_isLetter_1 rfl (lv_at hl3 1 rfl) ?_
  refine lv_bipush (pc := 2) (v := 97) E.1 E.2.1 dX12_isLetter_2 (by decide +kernel) ?_
  refine lv_bipush (pc := 4) (v := 122) E.1 E.2.1 dX12_isLetter_4 (by decide +kernel) ?_
  refine cm_i (pc := 6) hw1 (rn_M (As := [.int z_c, .int 97, .int 122]) (rest := []) E hw1 (s_isIn l D cI cJ _ M mr mi mf mg z_c 97 122) (gdV q_1622 q_1624 q_46 q_162 q_1625) hdV_X12_isIn ⟨rfl, rfl⟩ ⟨(Nat.le_of_ble_eq_true rfl), (Nat.le_of_ble_eq_true rfl)⟩ ⟨(Nat.le_of_ble_eq_true rfl), (Nat.le_of_ble_eq_true rfl)⟩ 12 rfl rfl rfl rfl hl3.1 rfl (Nat.le_of_ble_eq_true rfl) dX12_isLetter_6) (fun r_5 u_4 H1 locs hp hw6 => ?_)
  generalize H1 = H at hw6 ⊢
  have hw7 : WD D A s.heap (MW cI cJ M mr mi mf mg) H locs := hw6
  have hp_8 := hp
  rcases hp_8 with ⟨rfl, ha_9⟩ | ⟨rfl, ha_10⟩ | ⟨rfl, ha_11, ha_12⟩
  · skip
    have ha_9 : z_c.toInt < (97 : Int32).toInt := ha_9
    rw [show (97 : Int32).toInt = 97 from by decide +kernel] at ha_9
    refine lv_if_ne (pc := 9) (tgt := 24) E.1 E.2.1 dX12_isLetter_9 (by decide) (fun c_13 => absurd (meqE (a := 0) (b := 0) (by decide +kernel) (by decide +kernel) (by omega)) c_13) (fun _ => ?_)
    refine lv_aload_n (pc := 12) E.1 E.2.1 dX12_isLetter_12 rfl (lv_at hl3 0 rfl) ?_
    refine lv_iload_n (pc := 13) E.1 E.2.1 dX12_isLetter_13 rfl (lv_at hl3 1 rfl) ?_
    refine lv_bipush (pc := 14) (v := 65) E.1 E.2.1 dX12_isLetter_14 (by decide +kernel) ?_
    refine lv_bipush (pc := 16) (v := 90) E.1 E.2.1 dX12_isLetter_16 (by decide +kernel) ?_
    refine cm_i (pc := 18) hw7 (rn_M (As := [.int z_c, .int 65, .int 90]) (rest := []) E hw7 (s_isIn l D cI cJ _ M mr mi mf mg z_c 65 90) (gdV q_1622 q_1624 q_46 q_162 q_1625) hdV_X12_isIn ⟨rfl, rfl⟩ ⟨(Nat.le_of_ble_eq_true rfl), (Nat.le_of_ble_eq_true rfl)⟩ ⟨(Nat.le_of_ble_eq_true rfl), (Nat.le_of_ble_eq_true rfl)⟩ 12 rfl rfl rfl rfl hl3.1 rfl (Nat.le_of_ble_eq_true rfl) dX12_isLetter_18) (fun r_15 u_14 H1 locs hp hw16 => ?_)
    generalize H1 = H at hw16 ⊢
    have hw17 : WD D A s.heap (MW cI cJ M mr mi mf mg) H locs := hw16
    have hp_18 := hp
    rcases hp_18 with ⟨rfl, ha_19⟩ | ⟨rfl, ha_20⟩ | ⟨rfl, ha_21, ha_22⟩
    · skip
      have ha_19 : z_c.toInt < (65 : Int32).toInt := ha_19
      rw [show (65 : Int32).toInt = 65 from by decide +kernel] at ha_19
      refine lv_if_eq (pc := 21) (tgt := 28) E.1 E.2.1 dX12_isLetter_21 (by decide) (fun _ => ?_) (fun c_23 => absurd (meqE (a := 0) (b := 0) (by decide +kernel) (by decide +kernel) (by omega)) c_23)
      refine lv_iconst (pc := 28) (v := 0) E.1 E.2.1 dX12_isLetter_28 (by decide +kernel) ?_
      exact em_z (w1 := (fun (u : Unit) => (MW cI cJ M mr mi mf mg))) E hr hlk () hw17 (Or.inr (Or.inr (Or.inl ⟨rfl, (by show z_c.toInt ≤ 64; omega)⟩))) (by decide +kernel) (Nat.le_of_ble_eq_true rfl) (Nat.le_of_ble_eq_true rfl) dX12_isLetter_29
    · skip
      have ha_20 : (90 : Int32).toInt < z_c.toInt := ha_20
      rw [show (90 : Int32).toInt = 90 from by decide +kernel] at ha_20
      refine lv_if_eq (pc := 21) (tgt := 28) E.1 E.2.1 dX12_isLetter_21 (by decide) (fun _ => ?_) (fun c_24 => absurd (meqE (a := 0) (b := 0) (by decide +kernel) (by decide +kernel) (by omega)) c_24)
      refine lv_iconst (pc := 28) (v := 0) E.1 E.2.1 dX12_isLetter_28 (by decide +kernel) ?_
      exact em_z (w1 := (fun (u : Unit) => (MW cI cJ M mr mi mf mg))) E hr hlk () hw17 (Or.inr (Or.inr (Or.inr (Or.inl ⟨rfl, (by show 91 ≤ z_c.toInt; omega), (by show z_c.toInt ≤ 96; omega)⟩)))) (by decide +kernel) (Nat.le_of_ble_eq_true rfl) (Nat.le_of_ble_eq_true rfl) dX12_isLetter_29
    · skip
      have ha_21 : (65 : Int32).toInt ≤ z_c.toInt := ha_21
      rw [show (65 : Int32).toInt = 65 from by decide +kernel] at ha_21
      have ha_22 : z_c.toInt ≤ (90 : Int32).toInt := ha_22
      rw [show (90 : Int32).toInt = 90 from by decide +kernel] at ha_22
      refine lv_if_eq (pc := 21) (tgt := 28) E.1 E.2.1 dX12_isLetter_21 (by decide) (fun c_25 => absurd c_25 (mneE (a := 1) (b := 0) (by decide +kernel) (by decide +kernel) (by omega))) (fun _ => ?_)
      refine lv_iconst (pc := 24) (v := 1) E.1 E.2.1 dX12_isLetter_24 (by decide +kernel) ?_
      refine lv_goto (pc := 25) (tgt := 29) E.1 E.2.1 dX12_isLetter_25 (by decide) ?_
      exact em_z (w1 := (fun (u : Unit) => (MW cI cJ M mr mi mf mg))) E hr hlk () hw17 (Or.inr (Or.inl ⟨rfl, (by show 65 ≤ z_c.toInt; omega), (by show z_c.toInt ≤ 90; omega)⟩)) (by decide +kernel) (Nat.le_of_ble_eq_true rfl) (Nat.le_of_ble_eq_true rfl) dX12_isLetter_29
  · skip
    have ha_10 : (122 : Int32).toInt < z_c.toInt := ha_10
    rw [show (122 : Int32).toInt = 122 from by decide +kernel] at ha_10
    refine lv_if_ne (pc := 9) (tgt := 24) E.1 E.2.1 dX12_isLetter_9 (by decide) (fun c_26 => absurd (meqE (a := 0) (b := 0) (by decide +kernel) (by decide +kernel) (by omega)) c_26) (fun _ => ?_)
    refine lv_aload_n (pc := 12) E.1 E.2.1 dX12_isLetter_12 rfl (lv_at hl3 0 rfl) ?_
    refine lv_iload_n (pc := 13) E.1 E.2.1 dX12_isLetter_13 rfl (lv_at hl3 1 rfl) ?_
    refine lv_bipush (pc := 14) (v := 65) E.1 E.2.1 dX12_isLetter_14 (by decide +kernel) ?_
    refine lv_bipush (pc := 16) (v := 90) E.1 E.2.1 dX12_isLetter_16 (by decide +kernel) ?_
    refine cm_i (pc := 18) hw7 (rn_M (As := [.int z_c, .int 65, .int 90]) (rest := []) E hw7 (s_isIn l D cI cJ _ M mr mi mf mg z_c 65 90) (gdV q_1622 q_1624 q_46 q_162 q_1625) hdV_X12_isIn ⟨rfl, rfl⟩ ⟨(Nat.le_of_ble_eq_true rfl), (Nat.le_of_ble_eq_true rfl)⟩ ⟨(Nat.le_of_ble_eq_true rfl), (Nat.le_of_ble_eq_true rfl)⟩ 12 rfl rfl rfl rfl hl3.1 rfl (Nat.le_of_ble_eq_true rfl) dX12_isLetter_18) (fun r_28 u_27 H1 locs hp hw29 => ?_)
    generalize H1 = H at hw29 ⊢
    have hw30 : WD D A s.heap (MW cI cJ M mr mi mf mg) H locs := hw29
    have hp_31 := hp
    rcases hp_31 with ⟨rfl, ha_32⟩ | ⟨rfl, ha_33⟩ | ⟨rfl, ha_34, ha_35⟩
    · skip
      have ha_32 : z_c.toInt < (65 : Int32).toInt := ha_32
      rw [show (65 : Int32).toInt = 65 from by decide +kernel] at ha_32
      exfalso; omega
    · skip
      have ha_33 : (90 : Int32).toInt < z_c.toInt := ha_33
      rw [show (90 : Int32).toInt = 90 from by decide +kernel] at ha_33
      refine lv_if_eq (pc := 21) (tgt := 28) E.1 E.2.1 dX12_isLetter_21 (by decide) (fun _ => ?_) (fun c_36 => absurd (meqE (a := 0) (b := 0) (by decide +kernel) (by decide +kernel) (by omega)) c_36)
      refine lv_iconst (pc := 28) (v := 0) E.1 E.2.1 dX12_isLetter_28 (by decide +kernel) ?_
      exact em_z (w1 := (fun (u : Unit) => (MW cI cJ M mr mi mf mg))) E hr hlk () hw30 (Or.inr (Or.inr (Or.inr (Or.inr (⟨rfl, (by show 123 ≤ z_c.toInt; omega)⟩))))) (by decide +kernel) (Nat.le_of_ble_eq_true rfl) (Nat.le_of_ble_eq_true rfl) dX12_isLetter_29
    · skip
      have ha_34 : (65 : Int32).toInt ≤ z_c.toInt := ha_34
      rw [show (65 : Int32).toInt = 65 from by decide +kernel] at ha_34
      have ha_35 : z_c.toInt ≤ (90 : Int32).toInt := ha_35
      rw [show (90 : Int32).toInt = 90 from by decide +kernel] at ha_35
      exfalso; omega
  · skip
    have ha_11 : (97 : Int32).toInt ≤ z_c.toInt := ha_11
    rw [show (97 : Int32).toInt = 97 from by decide +kernel] at ha_11
    have ha_12 : z_c.toInt ≤ (122 : Int32).toInt := ha_12
    rw [show (122 : Int32).toInt = 122 from by decide +kernel] at ha_12
    refine lv_if_ne (pc := 9) (tgt := 24) E.1 E.2.1 dX12_isLetter_9 (by decide) (fun _ => ?_) (fun c_37 => absurd c_37 (mneE (a := 1) (b := 0) (by decide +kernel) (by decide +kernel) (by omega)))
    refine lv_iconst (pc := 24) (v := 1) E.1 E.2.1 dX12_isLetter_24 (by decide +kernel) ?_
    refine lv_goto (pc := 25) (tgt := 29) E.1 E.2.1 dX12_isLetter_25 (by decide) ?_
    exact em_z (w1 := (fun (u : Unit) => (MW cI cJ M mr mi mf mg))) E hr hlk () hw7 (Or.inl ⟨rfl, (by show 97 ≤ z_c.toInt; omega), (by show z_c.toInt ≤ 122; omega)⟩) (by decide +kernel) (Nat.le_of_ble_eq_true rfl) (Nat.le_of_ble_eq_true rfl) dX12_isLetter_29

set_option maxHeartbeats 4000000 in
set_option maxRecDepth 100000 in
theorem s_isDigitT (l : Launch) (D : va_G) (cI cJ : ClassId) (sz M : Nat) (mr : Nat → Nat) (mi : Nat → Int32) (mf : Nat → Nat → Int32) (mg : Nat → Nat → Int64) (z_c : Int32)  : Met l yX12_isDigit (Cond.code yX12_isDigit cX12_isDigit 2 (some .boolean) :: GW) ({ frames := 2, cells := 0, slots := 0, locals := 63 } : Room) (va_Pc [.ref M, .int z_c] (PW D cI cJ sz (MW cI cJ M mr mi mf mg) xT)) (va_Qi (fun (r : Int32) (u : Unit) => ((r = 1 ∧ 48 ≤ z_c.toInt ∧ z_c.toInt ≤ 57) ∨ (r = 0 ∧ z_c.toInt ≤ 47) ∨ (r = 0 ∧ 58 ≤ z_c.toInt))) (fun u => QW D cI cJ (va_A (MW cI cJ M mr mi mf mg) sz) ((fun (u : Unit) => (MW cI cJ M mr mi mf mg)) u)) (va_A (MW cI cJ M mr mi mf mg) sz)) 0 0 (va_A (MW cI cJ M mr mi mf mg) sz) := by
  refine mk_met (y := yX12_isDigit) (bytes := cX12_isDigit) (maxL := 2) (avs := [.ref M, .int z_c]) (WS := (MW cI cJ M mr mi mf mg)) (Qf := fun A => va_Qi (fun (r : Int32) (u : Unit) => ((r = 1 ∧ 48 ≤ z_c.toInt ∧ z_c.toInt ≤ 57) ∨ (r = 0 ∧ z_c.toInt ≤ 47) ∨ (r = 0 ∧ 58 ≤ z_c.toInt))) (fun u => QW D cI cJ A ((fun (u : Unit) => (MW cI cJ M mr mi mf mg)) u)) A) (by decide) (Nat.le_of_ble_eq_true rfl) ?_
  intro p e s m below meth c A ls E hr hlk hnm hX hw1 hl2
  have hl3 : lv_has ls 2 [(0, .ref M), (1, .int z_c)] := hl2
  refine lv_aload_n (pc := 0) E.1 E.2.1 dX12_isDigit_0 rfl (lv_at hl3 0 rfl) ?_
  refine lv_iload_n (pc := 1) E.1 E.2.1 dX12_isDigit_1 rfl (lv_at hl3 1 rfl) ?_
  refine lv_bipush (pc := 2) (v := 48) E.1 E.2.1 dX12_isDigit_2 (by decide +kernel) ?_
  refine lv_bipush (pc := 4) (v := 57) E.1 E.2.1 dX12_isDigit_4 (by decide +kernel) ?_
  refine cm_i (pc := 6) hw1 (rn_M (As := [.int z_c, .int 48, .int 57]) (rest := []) E hw1 (s_isIn l D cI cJ _ M mr mi mf mg z_c 48 57) (gdV q_1622 q_1624 q_46 q_162 q_1625) hdV_X12_isIn ⟨rfl, rfl⟩ ⟨(Nat.le_of_ble_eq_true rfl), (Nat.le_of_ble_eq_true rfl)⟩ ⟨(Nat.le_of_ble_eq_true rfl), (Nat.le_of_ble_eq_true rfl)⟩ 12 rfl rfl rfl rfl hl3.1 rfl (Nat.le_of_ble_eq_true rfl) dX12_isDigit_6) (fun r_5 u_4 H1 locs hp hw6 => ?_)
  generalize H1 = H at hw6 ⊢
  have hw7 : WD D A s.heap (MW cI cJ M mr mi mf mg) H locs := hw6
  have hp_8 := hp
  rcases hp_8 with ⟨rfl, ha_9⟩ | ⟨rfl, ha_10⟩ | ⟨rfl, ha_11, ha_12⟩
  · skip
    have ha_9 : z_c.toInt < (48 : Int32).toInt := ha_9
    rw [show (48 : Int32).toInt = 48 from by decide +kernel] at ha_9
    exact em_z (w1 := (fun (u : Unit) => (MW cI cJ M mr mi mf mg))) E hr hlk () hw7 (Or.inr (Or.inl ⟨rfl, (by show z_c.toInt ≤ 47; omega)⟩)) (by decide +kernel) (Nat.le_of_ble_eq_true rfl) (Nat.le_of_ble_eq_true rfl) dX12_isDigit_9
  · skip
    have ha_10 : (57 : Int32).toInt < z_c.toInt := ha_10
    rw [show (57 : Int32).toInt = 57 from by decide +kernel] at ha_10
    exact em_z (w1 := (fun (u : Unit) => (MW cI cJ M mr mi mf mg))) E hr hlk () hw7 (Or.inr (Or.inr (⟨rfl, (by show 58 ≤ z_c.toInt; omega)⟩))) (by decide +kernel) (Nat.le_of_ble_eq_true rfl) (Nat.le_of_ble_eq_true rfl) dX12_isDigit_9
  · skip
    have ha_11 : (48 : Int32).toInt ≤ z_c.toInt := ha_11
    rw [show (48 : Int32).toInt = 48 from by decide +kernel] at ha_11
    have ha_12 : z_c.toInt ≤ (57 : Int32).toInt := ha_12
    rw [show (57 : Int32).toInt = 57 from by decide +kernel] at ha_12
    exact em_z (w1 := (fun (u : Unit) => (MW cI cJ M mr mi mf mg))) E hr hlk () hw7 (Or.inl ⟨rfl, (by show 48 ≤ z_c.toInt; omega), (by show z_c.toInt ≤ 57; omega)⟩) (by decide +kernel) (Nat.le_of_ble_eq_true rfl) (Nat.le_of_ble_eq_true rfl) dX12_isDigit_9

set_option maxHeartbeats 4000000 in
set_option maxRecDepth 100000 in
theorem s_isMarkSignT (l : Launch) (D : va_G) (cI cJ : ClassId) (sz M : Nat) (mr : Nat → Nat) (mi : Nat → Int32) (mf : Nat → Nat → Int32) (mg : Nat → Nat → Int64) (z_c : Int32)  : Met l yX12_isMarkSign (Cond.code yX12_isMarkSign cX12_isMarkSign 2 (some .boolean) :: GW) ({ frames := 1, cells := 0, slots := 0, locals := 40 } : Room) (va_Pc [.ref M, .int z_c] (PW D cI cJ sz (MW cI cJ M mr mi mf mg) xT)) (va_Qi (fun (r : Int32) (u : Unit) => (0 ≤ r.toInt ∧ r.toInt ≤ 1) ∧ (((r : Int32) = 1 ↔ sgnB (z_c).toInt = true))) (fun u => QW D cI cJ (va_A (MW cI cJ M mr mi mf mg) sz) ((fun (u : Unit) => (MW cI cJ M mr mi mf mg)) u)) (va_A (MW cI cJ M mr mi mf mg) sz)) 0 0 (va_A (MW cI cJ M mr mi mf mg) sz) := by
  refine mk_met (y := yX12_isMarkSign) (bytes := cX12_isMarkSign) (maxL := 2) (avs := [.ref M, .int z_c]) (WS := (MW cI cJ M mr mi mf mg)) (Qf := fun A => va_Qi (fun (r : Int32) (u : Unit) => (0 ≤ r.toInt ∧ r.toInt ≤ 1) ∧ (((r : Int32) = 1 ↔ sgnB (z_c).toInt = true))) (fun u => QW D cI cJ A ((fun (u : Unit) => (MW cI cJ M mr mi mf mg)) u)) A) (by decide) (Nat.le_of_ble_eq_true rfl) ?_
  intro p e s m below meth c A ls E hr hlk hnm hX hw1 hl2
  have hl3 : lv_has ls 2 [(0, .ref M), (1, .int z_c)] := hl2
  refine lv_iload_n (pc := 0) E.1 E.2.1 dX12_isMarkSign_0 rfl (lv_at hl3 1 rfl) ?_
  refine lv_bipush (pc := 1) (v := 59) E.1 E.2.1 dX12_isMarkSign_1 (by decide +kernel) ?_
  refine lv_icmp_eq (pc := 3) (tgt := 60) E.1 E.2.1 dX12_isMarkSign_3 (by decide) (fun c_4 => ?_) (fun c_4 => ?_)
  · skip
    have hc_4 := eqE (a := z_c.toInt) (b := 59) rfl (by decide +kernel) c_4
    refine lv_iconst (pc := 60) (v := 1) E.1 E.2.1 dX12_isMarkSign_60 (by decide +kernel) ?_
    refine lv_goto (pc := 61) (tgt := 65) E.1 E.2.1 dX12_isMarkSign_61 (by decide) ?_
    exact em_z (w1 := (fun (u : Unit) => (MW cI cJ M mr mi mf mg))) E hr hlk () hw1 ⟨(by show 0 ≤ (1 : Int32).toInt ∧ (1 : Int32).toInt ≤ 1; have k_0 : (1 : Int32).toInt = 1 := (by decide +kernel); omega), (show ((1 : Int32) = 1 ↔ sgnB (z_c).toInt = true) from ⟨fun _ => (by rw [show z_c.toInt = 59 from by omega]; decide +kernel), fun _ => rfl⟩)⟩ (by decide +kernel) (Nat.le_of_ble_eq_true rfl) (Nat.le_of_ble_eq_true rfl) dX12_isMarkSign_65
  · skip
    have hc_4 := neE (a := z_c.toInt) (b := 59) rfl (by decide +kernel) c_4
    refine lv_iload_n (pc := 6) E.1 E.2.1 dX12_isMarkSign_6 rfl (lv_at hl3 1 rfl) ?_
    refine lv_bipush (pc := 7) (v := 43) E.1 E.2.1 dX12_isMarkSign_7 (by decide +kernel) ?_
    refine lv_icmp_eq (pc := 9) (tgt := 60) E.1 E.2.1 dX12_isMarkSign_9 (by decide) (fun c_5 => ?_) (fun c_5 => ?_)
    · skip
      have hc_5 := eqE (a := z_c.toInt) (b := 43) rfl (by decide +kernel) c_5
      refine lv_iconst (pc := 60) (v := 1) E.1 E.2.1 dX12_isMarkSign_60 (by decide +kernel) ?_
      refine lv_goto (pc := 61) (tgt := 65) E.1 E.2.1 dX12_isMarkSign_61 (by decide) ?_
      exact em_z (w1 := (fun (u : Unit) => (MW cI cJ M mr mi mf mg))) E hr hlk () hw1 ⟨(by show 0 ≤ (1 : Int32).toInt ∧ (1 : Int32).toInt ≤ 1; have k_0 : (1 : Int32).toInt = 1 := (by decide +kernel); omega), (show ((1 : Int32) = 1 ↔ sgnB (z_c).toInt = true) from ⟨fun _ => (by rw [show z_c.toInt = 43 from by omega]; decide +kernel), fun _ => rfl⟩)⟩ (by decide +kernel) (Nat.le_of_ble_eq_true rfl) (Nat.le_of_ble_eq_true rfl) dX12_isMarkSign_65
    · skip
      have hc_5 := neE (a := z_c.toInt) (b := 43) rfl (by decide +kernel) c_5
      refine lv_iload_n (pc := 12) E.1 E.2.1 dX12_isMarkSign_12 rfl (lv_at hl3 1 rfl) ?_
      refine lv_bipush (pc := 13) (v := 45) E.1 E.2.1 dX12_isMarkSign_13 (by decide +kernel) ?_
      refine lv_icmp_eq (pc := 15) (tgt := 60) E.1 E.2.1 dX12_isMarkSign_15 (by decide) (fun c_6 => ?_) (fun c_6 => ?_)
      · skip
        have hc_6 := eqE (a := z_c.toInt) (b := 45) rfl (by decide +kernel) c_6
        refine lv_iconst (pc := 60) (v := 1) E.1 E.2.1 dX12_isMarkSign_60 (by decide +kernel) ?_
        refine lv_goto (pc := 61) (tgt := 65) E.1 E.2.1 dX12_isMarkSign_61 (by decide) ?_
        exact em_z (w1 := (fun (u : Unit) => (MW cI cJ M mr mi mf mg))) E hr hlk () hw1 ⟨(by show 0 ≤ (1 : Int32).toInt ∧ (1 : Int32).toInt ≤ 1; have k_0 : (1 : Int32).toInt = 1 := (by decide +kernel); omega), (show ((1 : Int32) = 1 ↔ sgnB (z_c).toInt = true) from ⟨fun _ => (by rw [show z_c.toInt = 45 from by omega]; decide +kernel), fun _ => rfl⟩)⟩ (by decide +kernel) (Nat.le_of_ble_eq_true rfl) (Nat.le_of_ble_eq_true rfl) dX12_isMarkSign_65
      · skip
        have hc_6 := neE (a := z_c.toInt) (b := 45) rfl (by decide +kernel) c_6
        refine lv_iload_n (pc := 18) E.1 E.2.1 dX12_isMarkSign_18 rfl (lv_at hl3 1 rfl) ?_
        refine lv_bipush (pc := 19) (v := 42) E.1 E.2.1 dX12_isMarkSign_19 (by decide +kernel) ?_
        refine lv_icmp_eq (pc := 21) (tgt := 60) E.1 E.2.1 dX12_isMarkSign_21 (by decide) (fun c_7 => ?_) (fun c_7 => ?_)
        · skip
          have hc_7 := eqE (a := z_c.toInt) (b := 42) rfl (by decide +kernel) c_7
          refine lv_iconst (pc := 60) (v := 1) E.1 E.2.1 dX12_isMarkSign_60 (by decide +kernel) ?_
          refine lv_goto (pc := 61) (tgt := 65) E.1 E.2.1 dX12_isMarkSign_61 (by decide) ?_
          exact em_z (w1 := (fun (u : Unit) => (MW cI cJ M mr mi mf mg))) E hr hlk () hw1 ⟨(by show 0 ≤ (1 : Int32).toInt ∧ (1 : Int32).toInt ≤ 1; have k_0 : (1 : Int32).toInt = 1 := (by decide +kernel); omega), (show ((1 : Int32) = 1 ↔ sgnB (z_c).toInt = true) from ⟨fun _ => (by rw [show z_c.toInt = 42 from by omega]; decide +kernel), fun _ => rfl⟩)⟩ (by decide +kernel) (Nat.le_of_ble_eq_true rfl) (Nat.le_of_ble_eq_true rfl) dX12_isMarkSign_65
        · skip
          have hc_7 := neE (a := z_c.toInt) (b := 42) rfl (by decide +kernel) c_7
          refine lv_iload_n (pc := 24) E.1 E.2.1 dX12_isMarkSign_24 rfl (lv_at hl3 1 rfl) ?_
          refine lv_bipush (pc := 25) (v := 47) E.1 E.2.1 dX12_isMarkSign_25 (by decide +kernel) ?_
          refine lv_icmp_eq (pc := 27) (tgt := 60) E.1 E.2.1 dX12_isMarkSign_27 (by decide) (fun c_8 => ?_) (fun c_8 => ?_)
          · skip
            have hc_8 := eqE (a := z_c.toInt) (b := 47) rfl (by decide +kernel) c_8
            refine lv_iconst (pc := 60) (v := 1) E.1 E.2.1 dX12_isMarkSign_60 (by decide +kernel) ?_
            refine lv_goto (pc := 61) (tgt := 65) E.1 E.2.1 dX12_isMarkSign_61 (by decide) ?_
            exact em_z (w1 := (fun (u : Unit) => (MW cI cJ M mr mi mf mg))) E hr hlk () hw1 ⟨(by show 0 ≤ (1 : Int32).toInt ∧ (1 : Int32).toInt ≤ 1; have k_0 : (1 : Int32).toInt = 1 := (by decide +kernel); omega), (show ((1 : Int32) = 1 ↔ sgnB (z_c).toInt = true) from ⟨fun _ => (by rw [show z_c.toInt = 47 from by omega]; decide +kernel), fun _ => rfl⟩)⟩ (by decide +kernel) (Nat.le_of_ble_eq_true rfl) (Nat.le_of_ble_eq_true rfl) dX12_isMarkSign_65
          · skip
            have hc_8 := neE (a := z_c.toInt) (b := 47) rfl (by decide +kernel) c_8
            refine lv_iload_n (pc := 30) E.1 E.2.1 dX12_isMarkSign_30 rfl (lv_at hl3 1 rfl) ?_
            refine lv_bipush (pc := 31) (v := 40) E.1 E.2.1 dX12_isMarkSign_31 (by decide +kernel) ?_
            refine lv_icmp_eq (pc := 33) (tgt := 60) E.1 E.2.1 dX12_isMarkSign_33 (by decide) (fun c_9 => ?_) (fun c_9 => ?_)
            · skip
              have hc_9 := eqE (a := z_c.toInt) (b := 40) rfl (by decide +kernel) c_9
              refine lv_iconst (pc := 60) (v := 1) E.1 E.2.1 dX12_isMarkSign_60 (by decide +kernel) ?_
              refine lv_goto (pc := 61) (tgt := 65) E.1 E.2.1 dX12_isMarkSign_61 (by decide) ?_
              exact em_z (w1 := (fun (u : Unit) => (MW cI cJ M mr mi mf mg))) E hr hlk () hw1 ⟨(by show 0 ≤ (1 : Int32).toInt ∧ (1 : Int32).toInt ≤ 1; have k_0 : (1 : Int32).toInt = 1 := (by decide +kernel); omega), (show ((1 : Int32) = 1 ↔ sgnB (z_c).toInt = true) from ⟨fun _ => (by rw [show z_c.toInt = 40 from by omega]; decide +kernel), fun _ => rfl⟩)⟩ (by decide +kernel) (Nat.le_of_ble_eq_true rfl) (Nat.le_of_ble_eq_true rfl) dX12_isMarkSign_65
            · skip
              have hc_9 := neE (a := z_c.toInt) (b := 40) rfl (by decide +kernel) c_9
              refine lv_iload_n (pc := 36) E.1 E.2.1 dX12_isMarkSign_36 rfl (lv_at hl3 1 rfl) ?_
              refine lv_bipush (pc := 37) (v := 41) E.1 E.2.1 dX12_isMarkSign_37 (by decide +kernel) ?_
              refine lv_icmp_eq (pc := 39) (tgt := 60) E.1 E.2.1 dX12_isMarkSign_39 (by decide) (fun c_10 => ?_) (fun c_10 => ?_)
              · skip
                have hc_10 := eqE (a := z_c.toInt) (b := 41) rfl (by decide +kernel) c_10
                refine lv_iconst (pc := 60) (v := 1) E.1 E.2.1 dX12_isMarkSign_60 (by decide +kernel) ?_
                refine lv_goto (pc := 61) (tgt := 65) E.1 E.2.1 dX12_isMarkSign_61 (by decide) ?_
                exact em_z (w1 := (fun (u : Unit) => (MW cI cJ M mr mi mf mg))) E hr hlk () hw1 ⟨(by show 0 ≤ (1 : Int32).toInt ∧ (1 : Int32).toInt ≤ 1; have k_0 : (1 : Int32).toInt = 1 := (by decide +kernel); omega), (show ((1 : Int32) = 1 ↔ sgnB (z_c).toInt = true) from ⟨fun _ => (by rw [show z_c.toInt = 41 from by omega]; decide +kernel), fun _ => rfl⟩)⟩ (by decide +kernel) (Nat.le_of_ble_eq_true rfl) (Nat.le_of_ble_eq_true rfl) dX12_isMarkSign_65
              · skip
                have hc_10 := neE (a := z_c.toInt) (b := 41) rfl (by decide +kernel) c_10
                refine lv_iload_n (pc := 42) E.1 E.2.1 dX12_isMarkSign_42 rfl (lv_at hl3 1 rfl) ?_
                refine lv_bipush (pc := 43) (v := 60) E.1 E.2.1 dX12_isMarkSign_43 (by decide +kernel) ?_
                refine lv_icmp_eq (pc := 45) (tgt := 60) E.1 E.2.1 dX12_isMarkSign_45 (by decide) (fun c_11 => ?_) (fun c_11 => ?_)
                · skip
                  have hc_11 := eqE (a := z_c.toInt) (b := 60) rfl (by decide +kernel) c_11
                  refine lv_iconst (pc := 60) (v := 1) E.1 E.2.1 dX12_isMarkSign_60 (by decide +kernel) ?_
                  refine lv_goto (pc := 61) (tgt := 65) E.1 E.2.1 dX12_isMarkSign_61 (by decide) ?_
                  exact em_z (w1 := (fun (u : Unit) => (MW cI cJ M mr mi mf mg))) E hr hlk () hw1 ⟨(by show 0 ≤ (1 : Int32).toInt ∧ (1 : Int32).toInt ≤ 1; have k_0 : (1 : Int32).toInt = 1 := (by decide +kernel); omega), (show ((1 : Int32) = 1 ↔ sgnB (z_c).toInt = true) from ⟨fun _ => (by rw [show z_c.toInt = 60 from by omega]; decide +kernel), fun _ => rfl⟩)⟩ (by decide +kernel) (Nat.le_of_ble_eq_true rfl) (Nat.le_of_ble_eq_true rfl) dX12_isMarkSign_65
                · skip
                  have hc_11 := neE (a := z_c.toInt) (b := 60) rfl (by decide +kernel) c_11
                  refine lv_iload_n (pc := 48) E.1 E.2.1 dX12_isMarkSign_48 rfl (lv_at hl3 1 rfl) ?_
                  refine lv_bipush (pc := 49) (v := 61) E.1 E.2.1 dX12_isMarkSign_49 (by decide +kernel) ?_
                  refine lv_icmp_eq (pc := 51) (tgt := 60) E.1 E.2.1 dX12_isMarkSign_51 (by decide) (fun c_12 => ?_) (fun c_12 => ?_)
                  · skip
                    have hc_12 := eqE (a := z_c.toInt) (b := 61) rfl (by decide +kernel) c_12
                    refine lv_iconst (pc := 60) (v := 1) E.1 E.2.1 dX12_isMarkSign_60 (by decide +kernel) ?_
                    refine lv_goto (pc := 61) (tgt := 65) E.1 E.2.1 dX12_isMarkSign_61 (by decide) ?_
                    exact em_z (w1 := (fun (u : Unit) => (MW cI cJ M mr mi mf mg))) E hr hlk () hw1 ⟨(by show 0 ≤ (1 : Int32).toInt ∧ (1 : Int32).toInt ≤ 1; have k_0 : (1 : Int32).toInt = 1 := (by decide +kernel); omega), (show ((1 : Int32) = 1 ↔ sgnB (z_c).toInt = true) from ⟨fun _ => (by rw [show z_c.toInt = 61 from by omega]; decide +kernel), fun _ => rfl⟩)⟩ (by decide +kernel) (Nat.le_of_ble_eq_true rfl) (Nat.le_of_ble_eq_true rfl) dX12_isMarkSign_65
                  · skip
                    have hc_12 := neE (a := z_c.toInt) (b := 61) rfl (by decide +kernel) c_12
                    refine lv_iload_n (pc := 54) E.1 E.2.1 dX12_isMarkSign_54 rfl (lv_at hl3 1 rfl) ?_
                    refine lv_bipush (pc := 55) (v := 62) E.1 E.2.1 dX12_isMarkSign_55 (by decide +kernel) ?_
                    refine lv_icmp_ne (pc := 57) (tgt := 64) E.1 E.2.1 dX12_isMarkSign_57 (by decide) (fun c_13 => ?_) (fun c_13 => ?_)
                    · skip
                      have hc_13 := neE (a := z_c.toInt) (b := 62) rfl (by decide +kernel) c_13
                      refine lv_iconst (pc := 64) (v := 0) E.1 E.2.1 dX12_isMarkSign_64 (by decide +kernel) ?_
                      exact em_z (w1 := (fun (u : Unit) => (MW cI cJ M mr mi mf mg))) E hr hlk () hw1 ⟨(by show 0 ≤ (0 : Int32).toInt ∧ (0 : Int32).toInt ≤ 1; have k_0 : (0 : Int32).toInt = 0 := (by decide +kernel); omega), (show ((0 : Int32) = 1 ↔ sgnB (z_c).toInt = true) from ⟨fun h => absurd h (by decide +kernel), fun h => absurd h (by rw [sgn_f (by omega)]; decide)⟩)⟩ (by decide +kernel) (Nat.le_of_ble_eq_true rfl) (Nat.le_of_ble_eq_true rfl) dX12_isMarkSign_65
                    · skip
                      have hc_13 := eqE (a := z_c.toInt) (b := 62) rfl (by decide +kernel) c_13
                      refine lv_iconst (pc := 60) (v := 1) E.1 E.2.1 dX12_isMarkSign_60 (by decide +kernel) ?_
                      refine lv_goto (pc := 61) (tgt := 65) E.1 E.2.1 dX12_isMarkSign_61 (by decide) ?_
                      exact em_z (w1 := (fun (u : Unit) => (MW cI cJ M mr mi mf mg))) E hr hlk () hw1 ⟨(by show 0 ≤ (1 : Int32).toInt ∧ (1 : Int32).toInt ≤ 1; have k_0 : (1 : Int32).toInt = 1 := (by decide +kernel); omega), (show ((1 : Int32) = 1 ↔ sgnB (z_c).toInt = true) from ⟨fun _ => (by rw [show z_c.toInt = 62 from by omega]; decide +kernel), fun _ => rfl⟩)⟩ (by decide +kernel) (Nat.le_of_ble_eq_true rfl) (Nat.le_of_ble_eq_true rfl) dX12_isMarkSign_65

set_option maxHeartbeats 4000000 in
set_option maxRecDepth 100000 in
theorem s_rawT (l : Launch) (D : va_G) (cI cJ : ClassId) (sz M : Nat) (mr : Nat → Nat) (mi : Nat → Int32) (mf : Nat → Nat → Int32) (mg : Nat → Nat → Int64) (z_k : Int32) (h0 : 0 ≤ z_k.toInt) (h1 : 0 ≤ (mi 21).toInt ∧ (mi 21).toInt ≤ 400) (a_tape : b255 (mf 20)) : Met l yX12_raw (Cond.code yX12_raw cX12_raw 2 (some .int) :: GW) ({ frames := 1, cells := 0, slots := 0, locals := 40 } : Room) (va_Pc [.ref M, .int z_k] (PW D cI cJ sz (MW cI cJ M mr mi mf mg) xT)) (va_Qi (fun (r : Int32) (u : Unit) => ((z_k).toInt < (mi 21).toInt → r = (mf 20) (z_k).toNatClampNeg) ∧ (((mi 21).toInt ≤ z_k.toInt ∧ r.toInt = (-1)) ∨ (z_k.toInt ≤ (mi 21).toInt - 1 ∧ 0 ≤ r.toInt ∧ r.toInt ≤ 255))) (fun u => QW D cI cJ (va_A (MW cI cJ M mr mi mf mg) sz) ((fun (u : Unit) => (MW cI cJ M mr mi mf mg)) u)) (va_A (MW cI cJ M mr mi mf mg) sz)) 0 0 (va_A (MW cI cJ M mr mi mf mg) sz) := by
  refine mk_met (y := yX12_raw) (bytes := cX12_raw) (maxL := 2) (avs := [.ref M, .int z_k]) (WS := (MW cI cJ M mr mi mf mg)) (Qf := fun A => va_Qi (fun (r : Int32) (u : Unit) => ((z_k).toInt < (mi 21).toInt → r = (mf 20) (z_k).toNatClampNeg) ∧ (((mi 21).toInt ≤ z_k.toInt ∧ r.toInt = (-1)) ∨ (z_k.toInt ≤ (mi 21).toInt - 1 ∧ 0 ≤ r.toInt ∧ r.toInt ≤ 255))) (fun u => QW D cI cJ A ((fun (u : Unit) => (MW cI cJ M mr mi mf mg)) u)) A) (by decide) (Nat.le_of_ble_eq_true rfl) ?_
  intro p e s m below meth c A ls E hr hlk hnm hX hw1 hl2
  have hl3 : lv_has ls 2 [(0, .ref M), (1, .int z_k)] := hl2
  refine lv_iload_n (pc := 0) E.1 E.2.1 dX12_raw_0 rfl (lv_at hl3 1 rfl) ?_
  refine lv_aload_n (pc := 1) E.1 E.2.1 dX12_raw_1 rfl (lv_at hl3 0 rfl) ?_
  refine x_get (pc := 2) (T := TX12) (N := 70) (ci := 12) (v := .int (mi 21)) E hw1 inX12 0 21 q_1420 rfl rfl (by decide) rfl rfl dX12_raw_2 ?_
  refine lv_icmp_ge (pc := 5) (tgt := 17) E.1 E.2.1 dX12_raw_5 (by decide) (fun c_4 => ?_) (fun c_4 => ?_)
  · skip
    have hc_4 := leE (a := (mi 21).toInt) (b := z_k.toInt) rfl rfl c_4
    refine lv_iconst (pc := 17) (v := (-1)) E.1 E.2.1 dX12_raw_17 (by decide +kernel) ?_
    exact em_i (w1 := (fun (u : Unit) => (MW cI cJ M mr mi mf mg))) E hr hlk () hw1 ⟨(show (z_k).toInt < (mi 21).toInt → (-1) = (mf 20) (z_k).toNatClampNeg from (fun h => absurd h (by omega))), (Or.inl ⟨(by show (mi 21).toInt ≤ z_k.toInt; omega), (by show ((-1) : Int32).toInt = (-1); have k_0 : ((-1) : Int32).toInt = -1 := (by decide +kernel); omega)⟩)⟩ (Nat.le_of_ble_eq_true rfl) (Nat.le_of_ble_eq_true rfl) dX12_raw_18
  · skip
    have hc_4 := nleE (a := (mi 21).toInt) (b := z_k.toInt) rfl rfl c_4
    refine lv_aload_n (pc := 8) E.1 E.2.1 dX12_raw_8 rfl (lv_at hl3 0 rfl) ?_
    refine x_get (pc := 9) (T := TX12) (N := 70) (ci := 12) (v := .ref (mr 20)) E hw1 inX12 0 20 q_1419 rfl rfl (by decide) rfl rfl dX12_raw_9 ?_
    refine lv_iload_n (pc := 12) E.1 E.2.1 dX12_raw_12 rfl (lv_at hl3 1 rfl) ?_
    refine x_iald (pc := 13) (f := (mf 20)) E hw1 12 rfl (inbE (a := z_k.toInt) rfl (by omega)) dX12_raw_13 ?_
    refine lv_topi (fun v_5 ev_5 => ?_)
    have hbv_5 := allR_at (n := 400) (lo := 0) (hi := 255) a_tape ev_5 (by show 0 ≤ z_k.toInt ∧ _; omega)
    refine lv_goto (pc := 14) (tgt := 18) E.1 E.2.1 dX12_raw_14 (by decide) ?_
    exact em_i (w1 := (fun (u : Unit) => (MW cI cJ M mr mi mf mg))) E hr hlk () hw1 ⟨(show (z_k).toInt < (mi 21).toInt → v_5 = (mf 20) (z_k).toNatClampNeg from (fun _ => ev_5)), (Or.inr (⟨(by show z_k.toInt ≤ (mi 21).toInt - 1; omega), (by show 0 ≤ v_5.toInt; omega), (by show v_5.toInt ≤ 255; omega)⟩))⟩ (Nat.le_of_ble_eq_true rfl) (Nat.le_of_ble_eq_true rfl) dX12_raw_18

set_option maxHeartbeats 4000000 in
set_option maxRecDepth 100000 in
theorem s_wordAtT (l : Launch) (D : va_G) (cI cJ : ClassId) (sz M : Nat) (mr : Nat → Nat) (mi : Nat → Int32) (mf : Nat → Nat → Int32) (mg : Nat → Nat → Int64) (z_a : Int32) (z_b : Int32) (h0 : 0 ≤ z_a.toInt) (h1 : z_a.toInt ≤ z_b.toInt) (h2 : z_b.toInt ≤ 400) (h3 : ((mf 26) 153).toInt = 32) (lf_words : (∀ j : Nat, j < 154 → (mf 26) j = w0 j)) (x_let : LT (mf 20) (z_a).toInt (z_b).toInt) : Met l yX12_wordAt (Cond.code yX12_wordAt cX12_wordAt 6 (some .int) :: GW) ({ frames := 1, cells := 0, slots := 0, locals := 40 } : Room) (va_Pc [.ref M, .int z_a, .int z_b] (PW D cI cJ sz (MW cI cJ M mr mi mf mg) xT)) (va_Qi (fun (r : Int32) (u : Unit) => ((-1) ≤ r.toInt) ∧ (r.toInt ≤ 30) ∧ ((r : Int32).toInt = wxI (mf 20) (z_a).toInt (z_b).toInt WL 0)) (fun u => QW D cI cJ (va_A (MW cI cJ M mr mi mf mg) sz) ((fun (u : Unit) => (MW cI cJ M mr mi mf mg)) u)) (va_A (MW cI cJ M mr mi mf mg) sz)) 0 0 (va_A (MW cI cJ M mr mi mf mg) sz) := by
  refine mk_met (y := yX12_wordAt) (bytes := cX12_wordAt) (maxL := 6) (avs := [.ref M, .int z_a, .int z_b]) (WS := (MW cI cJ M mr mi mf mg)) (Qf := fun A => va_Qi (fun (r : Int32) (u : Unit) => ((-1) ≤ r.toInt) ∧ (r.toInt ≤ 30) ∧ ((r : Int32).toInt = wxI (mf 20) (z_a).toInt (z_b).toInt WL 0)) (fun u => QW D cI cJ A ((fun (u : Unit) => (MW cI cJ M mr mi mf mg)) u)) A) (by decide) (Nat.le_of_ble_eq_true rfl) ?_
  intro p e s m below meth c A ls E hr hlk hnm hX hw1 hl2
  have hl3 : lv_has ls 6 [(0, .ref M), (1, .int z_a), (2, .int z_b)] := hl2
  refine lv_iconst (pc := 0) (v := (-1)) E.1 E.2.1 dX12_wordAt_0 (by decide +kernel) ?_
  refine lv_istore_n (pc := 1) (lv' := [(3, .int (-1)), (0, .ref M), (1, .int z_a), (2, .int z_b)]) E.1 E.2.1 dX12_wordAt_1 rfl hl3 (by decide) rfl (fun ls hl4 => ?_)
  refine lv_iconst (pc := 2) (v := 0) E.1 E.2.1 dX12_wordAt_2 (by decide +kernel) ?_
  refine lv_istore (pc := 3) (lv' := [(4, .int 0), (3, .int (-1)), (0, .ref M), (1, .int z_a), (2, .int z_b)]) E.1 E.2.1 dX12_wordAt_3 hl4 (by decide) rfl (fun ls hl5 => ?_)
  have loop_6 : ∀ (k : Nat) (x_7 : Int32) (x_8 : Int32) (H : Heap) (locs : List Loc) (ls : Array Slot), (0 ≤ x_7.toInt ∧ x_7.toInt ≤ 153) ∧ ((-1) ≤ x_8.toInt) ∧ (x_8.toInt ≤ 30) ∧ (WOI (mf 20) z_a.toInt z_b.toInt x_7.toInt x_8.toInt) → 153 - x_7.toInt < (k : Int) → WD D A s.heap (MW cI cJ M mr mi mf mg) H locs → lv_has ls 6 [(4, .int x_7), (3, .int x_8), (0, .ref M), (1, .int z_a), (2, .int z_b)] → W p l e ({ frames := 1, cells := 0, slots := 0, locals := 40 } : Room) s m ([.ref M, .int z_a, .int z_b] : List Value).toArray below meth c H locs 0 0 (MQ below (va_Qi (fun (r : Int32) (u : Unit) => ((-1) ≤ r.toInt) ∧ (r.toInt ≤ 30) ∧ ((r : Int32).toInt = wxI (mf 20) (z_a).toInt (z_b).toInt WL 0)) (fun u => QW D cI cJ A ((fun (u : Unit) => (MW cI cJ M mr mi mf mg)) u)) A) ([.ref M, .int z_a, .int z_b] : List Value).toArray s 0 0 A) (F0 m 5 ls []) := by
    intro k
    induction k with
    | zero =>
      intro x_7 x_8 _ _ _ hinv hm
      obtain ⟨hi_8_0, hi_8_1, hi_8_2, hi_8_3⟩ := hinv
      exact absurd hm (by omega)
    | succ k ih_9 =>
      intro x_7 x_8 H locs ls hinv hm hw10 hl11
      obtain ⟨hi_8_0, hi_8_1, hi_8_2, hi_8_3⟩ := hinv
      refine lv_iload (pc := 5) E.1 E.2.1 dX12_wordAt_5 (lv_at hl11 0 rfl) ?_
      refine lv_sipush (pc := 7) (v := 153) E.1 E.2.1 dX12_wordAt_7 (by decide +kernel) ?_
      refine lv_icmp_ge (pc := 10) (tgt := 118) E.1 E.2.1 dX12_wordAt_10 (by decide) (fun c_12 => ?_) (fun c_12 => ?_)
      · skip
        have hc_12 := leE (a := 153) (b := x_7.toInt) (by decide +kernel) rfl c_12
        refine lv_iconst (pc := 118) (v := (-1)) E.1 E.2.1 dX12_wordAt_118 (by decide +kernel) ?_
        exact em_i (w1 := (fun (u : Unit) => (MW cI cJ M mr mi mf mg))) E hr hlk () hw10 ⟨(by show (-1) ≤ ((-1) : Int32).toInt; have k_0 : ((-1) : Int32).toInt = -1 := (by decide +kernel); omega), (by show ((-1) : Int32).toInt ≤ 30; have k_0 : ((-1) : Int32).toInt = -1 := (by decide +kernel); omega), (show ((-1) : Int32).toInt = wxI (mf 20) (z_a).toInt (z_b).toInt WL 0 from (by rw [WOI_end hi_8_3 (by omega)]; decide +kernel))⟩ (Nat.le_of_ble_eq_true rfl) (Nat.le_of_ble_eq_true rfl) dX12_wordAt_119
      · skip
        have hc_12 := nleE (a := 153) (b := x_7.toInt) (by decide +kernel) rfl c_12
        have hwb := WOI_b hi_8_3 (by omega)
        refine lv_iconst (pc := 13) (v := 0) E.1 E.2.1 dX12_wordAt_13 (by decide +kernel) ?_
        refine lv_istore (pc := 14) (lv' := [(5, .int 0), (4, .int x_7), (3, .int x_8), (0, .ref M), (1, .int z_a), (2, .int z_b)]) E.1 E.2.1 dX12_wordAt_14 hl11 (by decide) rfl (fun ls hl13 => ?_)
        refine lv_iload_n (pc := 16) E.1 E.2.1 dX12_wordAt_16 rfl (lv_at hl13 2 rfl) ?_
        refine lv_iconst (pc := 17) (v := 1) E.1 E.2.1 dX12_wordAt_17 (by decide +kernel) ?_
        refine lv_iadd (pc := 18) E.1 E.2.1 dX12_wordAt_18 ?_
        refine lv_topi (fun v_14 ev_14 => ?_)
        have hv_14 : v_14.toInt = x_8.toInt + 1 := by rw [ev_14]; exact addE rfl (by decide +kernel) (by omega)
        refine lv_istore_n (pc := 19) (lv' := [(3, .int v_14), (5, .int 0), (4, .int x_7), (0, .ref M), (1, .int z_a), (2, .int z_b)]) E.1 E.2.1 dX12_wordAt_19 rfl hl13 (by decide) rfl (fun ls hl15 => ?_)
        have loop_16 : ∀ (k : Nat) (x_17 : Int32) (H : Heap) (locs : List Loc) (ls : Array Slot), (0 ≤ x_17.toInt) ∧ (z_a.toInt + x_17.toInt ≤ z_b.toInt) ∧ (x_7.toInt + 1 + x_17.toInt ≤ 153) ∧ (WII (mf 20) (mf 26) z_a.toInt x_7.toInt x_17.toInt) → 400 - x_17.toInt < (k : Int) → WD D A s.heap (MW cI cJ M mr mi mf mg) H locs → lv_has ls 6 [(3, .int v_14), (5, .int x_17), (4, .int x_7), (0, .ref M), (1, .int z_a), (2, .int z_b)] → W p l e ({ frames := 1, cells := 0, slots := 0, locals := 40 } : Room) s m ([.ref M, .int z_a, .int z_b] : List Value).toArray below meth c H locs 0 0 (MQ below (va_Qi (fun (r : Int32) (u : Unit) => ((-1) ≤ r.toInt) ∧ (r.toInt ≤ 30) ∧ ((r : Int32).toInt = wxI (mf 20) (z_a).toInt (z_b).toInt WL 0)) (fun u => QW D cI cJ A ((fun (u : Unit) => (MW cI cJ M mr mi mf mg)) u)) A) ([.ref M, .int z_a, .int z_b] : List Value).toArray s 0 0 A) (F0 m 20 ls []) := by
          intro k
          induction k with
          | zero =>
            intro x_17 _ _ _ hinv hm
            obtain ⟨hi_17_0, hi_17_1, hi_17_2, hi_17_3⟩ := hinv
            exact absurd hm (by omega)
          | succ k ih_18 =>
            intro x_17 H locs ls hinv hm hw19 hl20
            obtain ⟨hi_17_0, hi_17_1, hi_17_2, hi_17_3⟩ := hinv
            have hwo : WOI (mf 20) z_a.toInt z_b.toInt x_7.toInt (v_14.toInt - 1) := by rw [show v_14.toInt - 1 = x_8.toInt from by omega]; exact hi_8_3
            refine lv_iload_n (pc := 20) E.1 E.2.1 dX12_wordAt_20 rfl (lv_at hl20 4 rfl) ?_
            refine lv_iload (pc := 21) E.1 E.2.1 dX12_wordAt_21 (lv_at hl20 1 rfl) ?_
            refine lv_iadd (pc := 23) E.1 E.2.1 dX12_wordAt_23 ?_
            refine lv_topi (fun v_21 ev_21 => ?_)
            have hv_21 : v_21.toInt = z_a.toInt + x_17.toInt := by rw [ev_21]; exact addE rfl rfl (by omega)
            refine lv_iload_n (pc := 24) E.1 E.2.1 dX12_wordAt_24 rfl (lv_at hl20 5 rfl) ?_
            refine lv_icmp_ge (pc := 25) (tgt := 61) E.1 E.2.1 dX12_wordAt_25 (by decide) (fun c_22 => ?_) (fun c_22 => ?_)
            · skip
              have hc_22 := leE (a := z_b.toInt) (b := v_21.toInt) rfl rfl c_22
              refine lv_iload_n (pc := 61) E.1 E.2.1 dX12_wordAt_61 rfl (lv_at hl20 4 rfl) ?_
              refine lv_iload (pc := 62) E.1 E.2.1 dX12_wordAt_62 (lv_at hl20 1 rfl) ?_
              refine lv_iadd (pc := 64) E.1 E.2.1 dX12_wordAt_64 ?_
              refine lv_topi (fun v_23 ev_23 => ?_)
              have hv_23 : v_23.toInt = z_a.toInt + x_17.toInt := by rw [ev_23]; exact addE rfl rfl (by omega)
              refine lv_iload_n (pc := 65) E.1 E.2.1 dX12_wordAt_65 rfl (lv_at hl20 5 rfl) ?_
              refine lv_icmp_ne (pc := 66) (tgt := 88) E.1 E.2.1 dX12_wordAt_66 (by decide) (fun c_24 => absurd (meqE (a := v_23.toInt) (b := z_b.toInt) rfl rfl (by omega)) c_24) (fun _ => ?_)
              refine lv_aload_n (pc := 69) E.1 E.2.1 dX12_wordAt_69 rfl (lv_at hl20 3 rfl) ?_
              refine x_get (pc := 70) (T := TX12) (N := 70) (ci := 12) (v := .ref (mr 26)) E hw19 inX12 0 26 q_1425 rfl rfl (by decide) rfl rfl dX12_wordAt_70 ?_
              refine lv_iload (pc := 73) E.1 E.2.1 dX12_wordAt_73 (lv_at hl20 2 rfl) ?_
              refine lv_iconst (pc := 75) (v := 1) E.1 E.2.1 dX12_wordAt_75 (by decide +kernel) ?_
              refine lv_iadd (pc := 76) E.1 E.2.1 dX12_wordAt_76 ?_
              refine lv_topi (fun v_25 ev_25 => ?_)
              have hv_25 : v_25.toInt = x_7.toInt + 1 := by rw [ev_25]; exact addE rfl (by decide +kernel) (by omega)
              refine lv_iload (pc := 77) E.1 E.2.1 dX12_wordAt_77 (lv_at hl20 1 rfl) ?_
              refine lv_iadd (pc := 79) E.1 E.2.1 dX12_wordAt_79 ?_
              refine lv_topi (fun v_26 ev_26 => ?_)
              have hv_26 : v_26.toInt = v_25.toInt + x_17.toInt := by rw [ev_26]; exact addE rfl rfl (by omega)
              refine x_iald (pc := 80) (f := (mf 26)) E hw19 13 rfl (inbE (a := v_26.toInt) rfl (by omega)) dX12_wordAt_80 ?_
              refine lv_topi (fun v_27 ev_27 => ?_)
              refine lv_bipush (pc := 81) (v := 32) E.1 E.2.1 dX12_wordAt_81 (by decide +kernel) ?_
              refine lv_icmp_ne (pc := 83) (tgt := 88) E.1 E.2.1 dX12_wordAt_83 (by decide) (fun c_28 => ?_) (fun c_28 => ?_)
              · skip
                have hc_28 := neE (a := v_27.toInt) (b := 32) rfl (by decide +kernel) c_28
                refine lv_iload (pc := 88) E.1 E.2.1 dX12_wordAt_88 (lv_at hl20 2 rfl) ?_
                refine lv_iconst (pc := 90) (v := 1) E.1 E.2.1 dX12_wordAt_90 (by decide +kernel) ?_
                refine lv_iadd (pc := 91) E.1 E.2.1 dX12_wordAt_91 ?_
                refine lv_topi (fun v_29 ev_29 => ?_)
                have hv_29 : v_29.toInt = x_7.toInt + 1 := by rw [ev_29]; exact addE rfl (by decide +kernel) (by omega)
                refine lv_istore (pc := 92) (lv' := [(4, .int v_29), (3, .int v_14), (5, .int x_17), (0, .ref M), (1, .int z_a), (2, .int z_b)]) E.1 E.2.1 dX12_wordAt_92 hl20 (by decide) rfl (fun ls hl30 => ?_)
                have loop_31 : ∀ (k : Nat) (x_32 : Int32) (H : Heap) (locs : List Loc) (ls : Array Slot), (x_7.toInt + 1 ≤ x_32.toInt) ∧ (x_32.toInt ≤ 153) ∧ (WOJ (mf 20) z_a.toInt z_b.toInt x_32.toInt v_14.toInt) → 153 - x_32.toInt < (k : Int) → WD D A s.heap (MW cI cJ M mr mi mf mg) H locs → lv_has ls 6 [(4, .int x_32), (3, .int v_14), (0, .ref M), (1, .int z_a), (2, .int z_b)] → W p l e ({ frames := 1, cells := 0, slots := 0, locals := 40 } : Room) s m ([.ref M, .int z_a, .int z_b] : List Value).toArray below meth c H locs 0 0 (MQ below (va_Qi (fun (r : Int32) (u : Unit) => ((-1) ≤ r.toInt) ∧ (r.toInt ≤ 30) ∧ ((r : Int32).toInt = wxI (mf 20) (z_a).toInt (z_b).toInt WL 0)) (fun u => QW D cI cJ A ((fun (u : Unit) => (MW cI cJ M mr mi mf mg)) u)) A) ([.ref M, .int z_a, .int z_b] : List Value).toArray s 0 0 A) (F0 m 94 ls []) := by
                  intro k
                  induction k with
                  | zero =>
                    intro x_32 _ _ _ hinv hm
                    obtain ⟨hi_32_0, hi_32_1, hi_32_2⟩ := hinv
                    exact absurd hm (by omega)
                  | succ k ih_33 =>
                    intro x_32 H locs ls hinv hm hw34 hl35
                    obtain ⟨hi_32_0, hi_32_1, hi_32_2⟩ := hinv
                    refine lv_aload_n (pc := 94) E.1 E.2.1 dX12_wordAt_94 rfl (lv_at hl35 2 rfl) ?_
                    refine x_get (pc := 95) (T := TX12) (N := 70) (ci := 12) (v := .ref (mr 26)) E hw34 inX12 0 26 q_1425 rfl rfl (by decide) rfl rfl dX12_wordAt_95 ?_
                    refine lv_iload (pc := 98) E.1 E.2.1 dX12_wordAt_98 (lv_at hl35 0 rfl) ?_
                    refine x_iald (pc := 100) (f := (mf 26)) E hw34 13 rfl (inbE (a := x_32.toInt) rfl (by omega)) dX12_wordAt_100 ?_
                    refine lv_topi (fun v_36 ev_36 => ?_)
                    refine lv_bipush (pc := 101) (v := 32) E.1 E.2.1 dX12_wordAt_101 (by decide +kernel) ?_
                    refine lv_icmp_eq (pc := 103) (tgt := 115) E.1 E.2.1 dX12_wordAt_103 (by decide) (fun c_37 => ?_) (fun c_37 => ?_)
                    · skip
                      have hc_37 := eqE (a := v_36.toInt) (b := 32) rfl (by decide +kernel) c_37
                      refine lv_goto (pc := 115) (tgt := 5) E.1 E.2.1 dX12_wordAt_115 (by decide) ?_
                      exact ih_9 x_32 v_14 _ _ _ ⟨(by show 0 ≤ x_32.toInt ∧ x_32.toInt ≤ 153; omega), (by show (-1) ≤ v_14.toInt; omega), (by show v_14.toInt ≤ 30; omega), (WOJ_end lf_words hi_32_2 ev_36 (by omega) (by omega))⟩ (by omega) hw34 (lv_sub hl35 [0, 1, 2, 3, 4] rfl)
                    · skip
                      have hc_37 := neE (a := v_36.toInt) (b := 32) rfl (by decide +kernel) c_37
                      have hz37 := wd_stop2 ev_36 (by omega) (by omega)
                      refine lv_iload (pc := 106) E.1 E.2.1 dX12_wordAt_106 (lv_at hl35 0 rfl) ?_
                      refine lv_iconst (pc := 108) (v := 1) E.1 E.2.1 dX12_wordAt_108 (by decide +kernel) ?_
                      refine lv_iadd (pc := 109) E.1 E.2.1 dX12_wordAt_109 ?_
                      refine lv_topi (fun v_38 ev_38 => ?_)
                      have hv_38 : v_38.toInt = x_32.toInt + 1 := by rw [ev_38]; exact addE rfl (by decide +kernel) (by omega)
                      refine lv_istore (pc := 110) (lv' := [(4, .int v_38), (3, .int v_14), (0, .ref M), (1, .int z_a), (2, .int z_b)]) E.1 E.2.1 dX12_wordAt_110 hl35 (by decide) rfl (fun ls hl39 => ?_)
                      refine lv_goto (pc := 112) (tgt := 94) E.1 E.2.1 dX12_wordAt_112 (by decide) ?_
                      exact ih_33 v_38 _ _ _ ⟨(by show x_7.toInt + 1 ≤ v_38.toInt; omega), (by show v_38.toInt ≤ 153; omega), (WOJ_step lf_words hi_32_2 ev_36 (by omega) (by omega) (by omega))⟩ (by omega) hw34 (lv_sub hl39 [0, 1, 2, 3, 4] rfl)
                exact loop_31 (Int.toNat (153 - v_29.toInt) + 1) v_29 _ _ _ ⟨(by show x_7.toInt + 1 ≤ v_29.toInt; omega), (by show v_29.toInt ≤ 153; omega), (WOJ_init (wo_miss lf_words hwo (by omega) (by omega) (by omega) ev_27 (i := x_17.toInt) (by omega) (by omega) (Or.inl ⟨by omega, by omega⟩)) (by omega))⟩ (by omega) hw19 (lv_sub hl30 [0, 1, 3, 4, 5] rfl)
              · skip
                have hc_28 := eqE (a := v_27.toInt) (b := 32) rfl (by decide +kernel) c_28
                refine lv_iload_n (pc := 86) E.1 E.2.1 dX12_wordAt_86 rfl (lv_at hl20 0 rfl) ?_
                exact em_i (w1 := (fun (u : Unit) => (MW cI cJ M mr mi mf mg))) E hr hlk () hw19 ⟨(by show (-1) ≤ v_14.toInt; omega), (by show v_14.toInt ≤ 30; omega), (show (v_14 : Int32).toInt = wxI (mf 20) (z_a).toInt (z_b).toInt WL 0 from (wo_hit lf_words hwo hi_17_3 x_let (by omega) (by omega) (by omega) ev_27 (by omega) (by omega) (by omega)))⟩ (Nat.le_of_ble_eq_true rfl) (Nat.le_of_ble_eq_true rfl) dX12_wordAt_87
            · skip
              have hc_22 := nleE (a := z_b.toInt) (b := v_21.toInt) rfl rfl c_22
              refine lv_aload_n (pc := 28) E.1 E.2.1 dX12_wordAt_28 rfl (lv_at hl20 3 rfl) ?_
              refine x_get (pc := 29) (T := TX12) (N := 70) (ci := 12) (v := .ref (mr 26)) E hw19 inX12 0 26 q_1425 rfl rfl (by decide) rfl rfl dX12_wordAt_29 ?_
              refine lv_iload (pc := 32) E.1 E.2.1 dX12_wordAt_32 (lv_at hl20 2 rfl) ?_
              refine lv_iconst (pc := 34) (v := 1) E.1 E.2.1 dX12_wordAt_34 (by decide +kernel) ?_
              refine lv_iadd (pc := 35) E.1 E.2.1 dX12_wordAt_35 ?_
              refine lv_topi (fun v_40 ev_40 => ?_)
              have hv_40 : v_40.toInt = x_7.toInt + 1 := by rw [ev_40]; exact addE rfl (by decide +kernel) (by omega)
              refine lv_iload (pc := 36) E.1 E.2.1 dX12_wordAt_36 (lv_at hl20 1 rfl) ?_
              refine lv_iadd (pc := 38) E.1 E.2.1 dX12_wordAt_38 ?_
              refine lv_topi (fun v_41 ev_41 => ?_)
              have hv_41 : v_41.toInt = v_40.toInt + x_17.toInt := by rw [ev_41]; exact addE rfl rfl (by omega)
              refine x_iald (pc := 39) (f := (mf 26)) E hw19 13 rfl (inbE (a := v_41.toInt) rfl (by omega)) dX12_wordAt_39 ?_
              refine lv_topi (fun v_42 ev_42 => ?_)
              refine lv_aload_n (pc := 40) E.1 E.2.1 dX12_wordAt_40 rfl (lv_at hl20 3 rfl) ?_
              refine x_get (pc := 41) (T := TX12) (N := 70) (ci := 12) (v := .ref (mr 20)) E hw19 inX12 0 20 q_1419 rfl rfl (by decide) rfl rfl dX12_wordAt_41 ?_
              refine lv_iload_n (pc := 44) E.1 E.2.1 dX12_wordAt_44 rfl (lv_at hl20 4 rfl) ?_
              refine lv_iload (pc := 45) E.1 E.2.1 dX12_wordAt_45 (lv_at hl20 1 rfl) ?_
              refine lv_iadd (pc := 47) E.1 E.2.1 dX12_wordAt_47 ?_
              refine lv_topi (fun v_43 ev_43 => ?_)
              have hv_43 : v_43.toInt = z_a.toInt + x_17.toInt := by rw [ev_43]; exact addE rfl rfl (by omega)
              refine x_iald (pc := 48) (f := (mf 20)) E hw19 12 rfl (inbE (a := v_43.toInt) rfl (by omega)) dX12_wordAt_48 ?_
              refine lv_topi (fun v_44 ev_44 => ?_)
              refine lv_icmp_ne (pc := 49) (tgt := 61) E.1 E.2.1 dX12_wordAt_49 (by decide) (fun c_45 => ?_) (fun c_45 => ?_)
              · skip
                have hc_45 := neE (a := v_42.toInt) (b := v_44.toInt) rfl rfl c_45
                refine lv_iload_n (pc := 61) E.1 E.2.1 dX12_wordAt_61 rfl (lv_at hl20 4 rfl) ?_
                refine lv_iload (pc := 62) E.1 E.2.1 dX12_wordAt_62 (lv_at hl20 1 rfl) ?_
                refine lv_iadd (pc := 64) E.1 E.2.1 dX12_wordAt_64 ?_
                refine lv_topi (fun v_46 ev_46 => ?_)
                have hv_46 : v_46.toInt = z_a.toInt + x_17.toInt := by rw [ev_46]; exact addE rfl rfl (by omega)
                refine lv_iload_n (pc := 65) E.1 E.2.1 dX12_wordAt_65 rfl (lv_at hl20 5 rfl) ?_
                refine lv_icmp_ne (pc := 66) (tgt := 88) E.1 E.2.1 dX12_wordAt_66 (by decide) (fun _ => ?_) (fun c_47 => absurd c_47 (mneE (a := v_46.toInt) (b := z_b.toInt) rfl rfl (by omega)))
                refine lv_iload (pc := 88) E.1 E.2.1 dX12_wordAt_88 (lv_at hl20 2 rfl) ?_
                refine lv_iconst (pc := 90) (v := 1) E.1 E.2.1 dX12_wordAt_90 (by decide +kernel) ?_
                refine lv_iadd (pc := 91) E.1 E.2.1 dX12_wordAt_91 ?_
                refine lv_topi (fun v_48 ev_48 => ?_)
                have hv_48 : v_48.toInt = x_7.toInt + 1 := by rw [ev_48]; exact addE rfl (by decide +kernel) (by omega)
                refine lv_istore (pc := 92) (lv' := [(4, .int v_48), (3, .int v_14), (5, .int x_17), (0, .ref M), (1, .int z_a), (2, .int z_b)]) E.1 E.2.1 dX12_wordAt_92 hl20 (by decide) rfl (fun ls hl49 => ?_)
                have loop_50 : ∀ (k : Nat) (x_51 : Int32) (H : Heap) (locs : List Loc) (ls : Array Slot), (x_7.toInt + 1 ≤ x_51.toInt) ∧ (x_51.toInt ≤ 153) ∧ (WOJ (mf 20) z_a.toInt z_b.toInt x_51.toInt v_14.toInt) → 153 - x_51.toInt < (k : Int) → WD D A s.heap (MW cI cJ M mr mi mf mg) H locs → lv_has ls 6 [(4, .int x_51), (3, .int v_14), (0, .ref M), (1, .int z_a), (2, .int z_b)] → W p l e ({ frames := 1, cells := 0, slots := 0, locals := 40 } : Room) s m ([.ref M, .int z_a, .int z_b] : List Value).toArray below meth c H locs 0 0 (MQ below (va_Qi (fun (r : Int32) (u : Unit) => ((-1) ≤ r.toInt) ∧ (r.toInt ≤ 30) ∧ ((r : Int32).toInt = wxI (mf 20) (z_a).toInt (z_b).toInt WL 0)) (fun u => QW D cI cJ A ((fun (u : Unit) => (MW cI cJ M mr mi mf mg)) u)) A) ([.ref M, .int z_a, .int z_b] : List Value).toArray s 0 0 A) (F0 m 94 ls []) := by
                  intro k
                  induction k with
                  | zero =>
                    intro x_51 _ _ _ hinv hm
                    obtain ⟨hi_51_0, hi_51_1, hi_51_2⟩ := hinv
                    exact absurd hm (by omega)
                  | succ k ih_52 =>
                    intro x_51 H locs ls hinv hm hw53 hl54
                    obtain ⟨hi_51_0, hi_51_1, hi_51_2⟩ := hinv
                    refine lv_aload_n (pc := 94) E.1 E.2.1 dX12_wordAt_94 rfl (lv_at hl54 2 rfl) ?_
                    refine x_get (pc := 95) (T := TX12) (N := 70) (ci := 12) (v := .ref (mr 26)) E hw53 inX12 0 26 q_1425 rfl rfl (by decide) rfl rfl dX12_wordAt_95 ?_
                    refine lv_iload (pc := 98) E.1 E.2.1 dX12_wordAt_98 (lv_at hl54 0 rfl) ?_
                    refine x_iald (pc := 100) (f := (mf 26)) E hw53 13 rfl (inbE (a := x_51.toInt) rfl (by omega)) dX12_wordAt_100 ?_
                    refine lv_topi (fun v_55 ev_55 => ?_)
                    refine lv_bipush (pc := 101) (v := 32) E.1 E.2.1 dX12_wordAt_101 (by decide +kernel) ?_
                    refine lv_icmp_eq (pc := 103) (tgt := 115) E.1 E.2.1 dX12_wordAt_103 (by decide) (fun c_56 => ?_) (fun c_56 => ?_)
                    · skip
                      have hc_56 := eqE (a := v_55.toInt) (b := 32) rfl (by decide +kernel) c_56
                      refine lv_goto (pc := 115) (tgt := 5) E.1 E.2.1 dX12_wordAt_115 (by decide) ?_
                      exact ih_9 x_51 v_14 _ _ _ ⟨(by show 0 ≤ x_51.toInt ∧ x_51.toInt ≤ 153; omega), (by show (-1) ≤ v_14.toInt; omega), (by show v_14.toInt ≤ 30; omega), (WOJ_end lf_words hi_51_2 ev_55 (by omega) (by omega))⟩ (by omega) hw53 (lv_sub hl54 [0, 1, 2, 3, 4] rfl)
                    · skip
                      have hc_56 := neE (a := v_55.toInt) (b := 32) rfl (by decide +kernel) c_56
                      have hz56 := wd_stop2 ev_55 (by omega) (by omega)
                      refine lv_iload (pc := 106) E.1 E.2.1 dX12_wordAt_106 (lv_at hl54 0 rfl) ?_
                      refine lv_iconst (pc := 108) (v := 1) E.1 E.2.1 dX12_wordAt_108 (by decide +kernel) ?_
                      refine lv_iadd (pc := 109) E.1 E.2.1 dX12_wordAt_109 ?_
                      refine lv_topi (fun v_57 ev_57 => ?_)
                      have hv_57 : v_57.toInt = x_51.toInt + 1 := by rw [ev_57]; exact addE rfl (by decide +kernel) (by omega)
                      refine lv_istore (pc := 110) (lv' := [(4, .int v_57), (3, .int v_14), (0, .ref M), (1, .int z_a), (2, .int z_b)]) E.1 E.2.1 dX12_wordAt_110 hl54 (by decide) rfl (fun ls hl58 => ?_)
                      refine lv_goto (pc := 112) (tgt := 94) E.1 E.2.1 dX12_wordAt_112 (by decide) ?_
                      exact ih_52 v_57 _ _ _ ⟨(by show x_7.toInt + 1 ≤ v_57.toInt; omega), (by show v_57.toInt ≤ 153; omega), (WOJ_step lf_words hi_51_2 ev_55 (by omega) (by omega) (by omega))⟩ (by omega) hw53 (lv_sub hl58 [0, 1, 2, 3, 4] rfl)
                exact loop_50 (Int.toNat (153 - v_48.toInt) + 1) v_48 _ _ _ ⟨(by show x_7.toInt + 1 ≤ v_48.toInt; omega), (by show v_48.toInt ≤ 153; omega), (WOJ_init (wo_miss lf_words hwo (by omega) (by omega) (by omega) ev_42 (i := x_17.toInt) (by omega) (by omega) (Or.inr ⟨by omega, v_43, v_44, ev_44, by omega, by omega⟩)) (by omega))⟩ (by omega) hw19 (lv_sub hl49 [0, 1, 3, 4, 5] rfl)
              · skip
                have hc_45 := eqE (a := v_42.toInt) (b := v_44.toInt) rfl rfl c_45
                have hz58 := wd_stop ev_42 ev_44 (by omega) (by omega) x_let (by omega) (by omega)
                refine lv_iload (pc := 52) E.1 E.2.1 dX12_wordAt_52 (lv_at hl20 1 rfl) ?_
                refine lv_iconst (pc := 54) (v := 1) E.1 E.2.1 dX12_wordAt_54 (by decide +kernel) ?_
                refine lv_iadd (pc := 55) E.1 E.2.1 dX12_wordAt_55 ?_
                refine lv_topi (fun v_59 ev_59 => ?_)
                have hv_59 : v_59.toInt = x_17.toInt + 1 := by rw [ev_59]; exact addE rfl (by decide +kernel) (by omega)
                refine lv_istore (pc := 56) (lv' := [(5, .int v_59), (3, .int v_14), (4, .int x_7), (0, .ref M), (1, .int z_a), (2, .int z_b)]) E.1 E.2.1 dX12_wordAt_56 hl20 (by decide) rfl (fun ls hl60 => ?_)
                refine lv_goto (pc := 58) (tgt := 20) E.1 E.2.1 dX12_wordAt_58 (by decide) ?_
                exact ih_18 v_59 _ _ _ ⟨(by show 0 ≤ v_59.toInt; omega), (by show z_a.toInt + v_59.toInt ≤ z_b.toInt; omega), (by show x_7.toInt + 1 + v_59.toInt ≤ 153; omega), (WII_step hi_17_3 ev_42 ev_44 (by omega) (by omega) (by omega) (by omega) (by omega) (by omega) (m := v_59.toInt) (by omega))⟩ (by omega) hw19 (lv_sub hl60 [1, 0, 2, 3, 4, 5] rfl)
        exact loop_16 (Int.toNat (400 - 0) + 1) 0 _ _ _ ⟨(by show 0 ≤ (0 : Int32).toInt; have k_0 : (0 : Int32).toInt = 0 := (by decide +kernel); omega), (by show z_a.toInt + (0 : Int32).toInt ≤ z_b.toInt; have k_0 : (0 : Int32).toInt = 0 := (by decide +kernel); omega), (by show x_7.toInt + 1 + (0 : Int32).toInt ≤ 153; have k_0 : (0 : Int32).toInt = 0 := (by decide +kernel); omega), (WII_nil (by have k0 : (0 : Int32).toInt = 0 := (by decide +kernel); omega))⟩ (by have k_0 : (0 : Int32).toInt = 0 := (by decide +kernel); omega) hw10 (lv_sub hl15 [0, 1, 2, 3, 4, 5] rfl)
  exact loop_6 (Int.toNat (153 - 0) + 1) 0 (-1) _ _ _ ⟨(by show 0 ≤ (0 : Int32).toInt ∧ (0 : Int32).toInt ≤ 153; have k_0 : (0 : Int32).toInt = 0 := (by decide +kernel); omega), (by show (-1) ≤ ((-1) : Int32).toInt; have k_0 : ((-1) : Int32).toInt = -1 := (by decide +kernel); omega), (by show ((-1) : Int32).toInt ≤ 30; have k_0 : ((-1) : Int32).toInt = -1 := (by decide +kernel); omega), (WOI_init (by decide +kernel) (by decide +kernel))⟩ (by have k_0 : (0 : Int32).toInt = 0 := (by decide +kernel); have k_1 : ((-1) : Int32).toInt = -1 := (by decide +kernel); omega) hw1 (lv_sub hl5 [0, 1, 2, 3, 4] rfl)

