set_option maxHeartbeats 4000000 in
set_option maxRecDepth 100000 in
theorem s_isLetter2 (l : Launch) (D : va_G) (cI cJ : ClassId) (sz M : Nat) (mr : Nat → Nat) (mi : Nat → Int32) (mf : Nat → Nat → Int32) (mg : Nat → Nat → Int64) (z_c : Int32)  : Met l yX12_isLetter (Cond.code yX12_isLetter cX12_isLetter 2 (some .boolean) :: GW) ({ frames := 2, cells := 0, slots := 0, locals := 63 } : Room) (va_Pc [.ref M, .int z_c] (PW D cI cJ sz (MW cI cJ M mr mi mf mg) xT)) (va_Qi (fun (r : Int32) (u : Unit) => ((r = 1 ∧ 65 ≤ z_c.toInt ∧ z_c.toInt ≤ 122) ∨ (r = 0))) (fun u => QW D cI cJ (va_A (MW cI cJ M mr mi mf mg) sz) ((fun (u : Unit) => (MW cI cJ M mr mi mf mg)) u)) (va_A (MW cI cJ M mr mi mf mg) sz)) 0 0 (va_A (MW cI cJ M mr mi mf mg) sz) := by
  refine mk_met (y := yX12_isLetter) (bytes := cX12_isLetter) (maxL := 2) (avs := [.ref M, .int z_c]) (WS := (MW cI cJ M mr mi mf mg)) (Qf := fun A => va_Qi (fun (r : Int32) (u : Unit) => ((r = 1 ∧ 65 ≤ z_c.toInt ∧ z_c.toInt ≤ 122) ∨ (r = 0))) (fun u => QW D cI cJ A ((fun (u : Unit) => (MW cI cJ M mr mi mf mg)) u)) A) (by decide) (Nat.le_of_ble_eq_true rfl) ?_
  intro p e s m below meth c A ls E hr hlk hnm hX hw1 hl2
  have hl3 : lv_has ls 2 [(0, .ref M), (1, .int z_c)] := hl2
  refine lv_aload_n (pc := 0) E.1 E.2.1 dX12_isLetter_0 rfl (lv_at hl3 0 rfl) ?_
  refine lv_iload_n (pc := 1) E.1 E.2.1 dX12_isLetter_1 rfl (lv_at hl3 1 rfl) ?_
  refine lv_bipush (pc := 2) (v := 97) E.1 E.2.1 dX12_isLetter_2 (by decide +kernel) ?_
  refine lv_bipush (pc := 4) (v := 122) E.1 E.2.1 dX12_isLetter_4 (by decide +kernel) ?_
  refine cm_i (pc := 6) hw1 (rn_M (As := [.int z_c, .int 97, .int 122]) (rest := []) E hw1 (s_isIn l D cI cJ _ M mr mi mf mg z_c 97 122) (gdV q_1622 q_1624 q_46 q_162 q_1625) hdV_X12_isIn ⟨rfl, rfl⟩ ⟨(Nat.le_of_ble_eq_true rfl), (Nat.le_of_ble_eq_true rfl)⟩ ⟨(Nat.le_of_ble_eq_true rfl), (Nat.le_of_ble_eq_true rfl)⟩ 12 rfl rfl rfl rfl hl3.1 rfl (Nat.le_of_ble_eq_true rfl) dX12_isLetter_6) (fun r_5 u_4 H1 locs hp hw6 => ?_)
  generalize H1 = H at hw6 ⊢
  have hw7 : WD D A s.heap (MW cI cJ M mr mi mf mg) H locs := hw6
  have hp_8 := hp
  rcases hp_8 with ⟨rfl, ha_9⟩ | ⟨rfl, ha_10⟩ | ⟨rfl, ha_11, ha_12⟩
  · skip
    have ha_9 : z_c.toInt < (97 : Int32).toInt := ha_9
    rw [show (97 : Int32).toInt = 97 from by decide +kernel] at ha_9
    refine lv_if_ne (pc := 9) (tgt := 24) E.1 E.2.1 dX12_isLetter_9 (by decide) (fun c_13 => absurd (meqE (a := 0) (b := 0) (by decide +kernel) (by decide +kernel) (by omega)) c_13) (fun _ => ?_)
    refine lv_aload_n (pc := 12) E.1 E.2.1 dX12_isLetter_12 rfl (lv_at hl3 0 rfl) ?_
    refine lv_iload_n (pc := 13) E.1 E.2.1 dX12_isLetter_13 rfl (lv_at hl3 1 rfl) ?_
    refine lv_bipush (pc := 14) (v := 65) E.1 E.2.1 dX12_isLetter_14 (by decide +kernel) ?_
    refine lv_bipush (pc := 16) (v := 90) E.1 E.2.1 dX12_isLetter_16 (by decide +kernel) ?_
    refine cm_i (pc := 18) hw7 (rn_M (As := [.int z_c, .int 65, .int 90]) (rest := []) E hw7 (s_isIn l D cI cJ _ M mr mi mf mg z_c 65 90) (gdV q_1622 q_1624 q_46 q_162 q_1625) hdV_X12_isIn ⟨rfl, rfl⟩ ⟨(Nat.le_of_ble_eq_true rfl), (Nat.le_of_ble_eq_true rfl)⟩ ⟨(Nat.le_of_ble_eq_true rfl), (Nat.le_of_ble_eq_true rfl)⟩ 12 rfl rfl rfl rfl hl3.1 rfl (Nat.le_of_ble_eq_true rfl) dX12_isLetter_18) (fun r_15 u_14 H1 locs hp hw16 => ?_)
    generalize H1 = H at hw16 ⊢
    have hw17 : WD D A s.heap (MW cI cJ M mr mi mf mg) H locs := hw16
    have hp_18 := hp
    rcases hp_18 with ⟨rfl, ha_19⟩ | ⟨rfl, ha_20⟩ | ⟨rfl, ha_21, ha_22⟩
    · skip
      have ha_19 : z_c.toInt < (65 : Int32).toInt := ha_19
      rw [show (65 : Int32).toInt = 65 from by decide +kernel] at ha_19
      refine lv_if_eq (pc := 21) (tgt := 28) E.1 E.2.1 dX12_isLetter_21 (by decide) (fun _ => ?_) (fun c_23 => absurd (meqE (a := 0) (b := 0) (by decide +kernel) (by decide +kernel) (by omega)) c_23)
      refine lv_iconst (pc := 28) (v := 0) E.1 E.2.1 dX12_isLetter_28 (by decide +kernel) ?_
      exact em_z (w1 := (fun (u : Unit) => (MW cI cJ M mr mi mf mg))) E hr hlk () hw17 (Or.inr (rfl)) (by decide +kernel) (Nat.le_of_ble_eq_true rfl) (Nat.le_of_ble_eq_true rfl) dX12_isLetter_29
    · skip
      have ha_20 : (90 : Int32).toInt < z_c.toInt := ha_20
      rw [show (90 : Int32).toInt = 90 from by decide +kernel] at ha_20
      refine lv_if_eq (pc := 21) (tgt := 28) E.1 E.2.1 dX12_isLetter_21 (by decide) (fun _ => ?_) (fun c_24 => absurd (meqE (a := 0) (b := 0) (by decide +kernel) (by decide +kernel) (by omega)) c_24)
      refine lv_iconst (pc := 28) (v := 0) E.1 E.2.1 dX12_isLetter_28 (by decide +kernel) ?_
      exact em_z (w1 := (fun (u : Unit) => (MW cI cJ M mr mi mf mg))) E hr hlk () hw17 (Or.inr (rfl)) (by decide +kernel) (Nat.le_of_ble_eq_true rfl) (Nat.le_of_ble_eq_true rfl) dX12_isLetter_29
    · skip
      have ha_21 : (65 : Int32).toInt ≤ z_c.toInt := ha_21
      rw [show (65 : Int32).toInt = 65 from by decide +kernel] at ha_21
      have ha_22 : z_c.toInt ≤ (90 : Int32).toInt := ha_22
      rw [show (90 : Int32).toInt = 90 from by decide +kernel] at ha_22
      refine lv_if_eq (pc := 21) (tgt := 28) E.1 E.2.1 dX12_isLetter_21 (by decide) (fun c_25 => absurd c_25 (mneE (a := 1) (b := 0) (by decide +kernel) (by decide +kernel) (by omega))) (fun _ => ?_)
      refine lv_iconst (pc := 24) (v := 1) E.1 E.2.1 dX12_isLetter_24 (by decide +kernel) ?_
      refine lv_goto (pc := 25) (tgt := 29) E.1 E.2.1 dX12_isLetter_25 (by decide) ?_
      exact em_z (w1 := (fun (u : Unit) => (MW cI cJ M mr mi mf mg))) E hr hlk () hw17 (Or.inl ⟨rfl, (by show 65 ≤ z_c.toInt; omega), (by show z_c.toInt ≤ 122; omega)⟩) (by decide +kernel) (Nat.le_of_ble_eq_true rfl) (Nat.le_of_ble_eq_true rfl) dX12_isLetter_29
  · skip
    have ha_10 : (122 : Int32).toInt < z_c.toInt := ha_10
    rw [show (122 : Int32).toInt = 122 from by decide +kernel] at ha_10
    refine lv_if_ne (pc := 9) (tgt := 24) E.1 E.2.1 dX12_isLetter_9 (by decide) (fun c_26 => absurd (meqE (a := 0) (b := 0) (by decide +kernel) (by decide +kernel) (by omega)) c_26) (fun _ => ?_)
    refine lv_aload_n (pc := 12) E.1 E.2.1 dX12_isLetter_12 rfl (lv_at hl3 0 rfl) ?_
    refine lv_iload_n (pc := 13) E.1 E.2.1 dX12_isLetter_13 rfl (lv_at hl3 1 rfl) ?_
    refine lv_bipush (pc := 14) (v := 65) E.1 E.2.1 dX12_isLetter_14 (by decide +kernel) ?_
    refine lv_bipush (pc := 16) (v := 90) E.1 E.2.1 dX12_isLetter_16 (by decide +kernel) ?_
    refine cm_i (pc := 18) hw7 (rn_M (As := [.int z_c, .int 65, .int 90]) (rest := []) E hw7 (s_isIn l D cI cJ _ M mr mi mf mg z_c 65 90) (gdV q_1622 q_1624 q_46 q_162 q_1625) hdV_X12_isIn ⟨rfl, rfl⟩ ⟨(Nat.le_of_ble_eq_true rfl), (Nat.le_of_ble_eq_true rfl)⟩ ⟨(Nat.le_of_ble_eq_true rfl), (Nat.le_of_ble_eq_true rfl)⟩ 12 rfl rfl rfl rfl hl3.1 rfl (Nat.le_of_ble_eq_true rfl) dX12_isLetter_18) (fun r_28 u_27 H1 locs hp hw29 => ?_)
    generalize H1 = H at hw29 ⊢
    have hw30 : WD D A s.heap (MW cI cJ M mr mi mf mg) H locs := hw29
    have hp_31 := hp
    rcases hp_31 with ⟨rfl, ha_32⟩ | ⟨rfl, ha_33⟩ | ⟨rfl, ha_34, ha_35⟩
    · skip
      have ha_32 : z_c.toInt < (65 : Int32).toInt := ha_32
      rw [show (65 : Int32).toInt = 65 from by decide +kernel] at ha_32
      exfalso; omega
    · skip
      have ha_33 : (90 : Int32).toInt < z_c.toInt := ha_33
      rw [show (90 : Int32).toInt = 90 from by decide +kernel] at ha_33
      refine lv_if_eq (pc := 21) (tgt := 28) E.1 E.2.1 dX12_isLetter_21 (by decide) (fun _ => ?_) (fun c_36 => absurd (meqE (a := 0) (b := 0) (by decide +kernel) (by decide +kernel) (by omega)) c_36)
      refine lv_iconst (pc := 28) (v := 0) E.1 E.2.1 dX12_isLetter_28 (by decide +kernel) ?_
      exact em_z (w1 := (fun (u : Unit) => (MW cI cJ M mr mi mf mg))) E hr hlk () hw30 (Or.inr (rfl)) (by decide +kernel) (Nat.le_of_ble_eq_true rfl) (Nat.le_of_ble_eq_true rfl) dX12_isLetter_29
    · skip
      have ha_34 : (65 : Int32).toInt ≤ z_c.toInt := ha_34
      rw [show (65 : Int32).toInt = 65 from by decide +kernel] at ha_34
      have ha_35 : z_c.toInt ≤ (90 : Int32).toInt := ha_35
      rw [show (90 : Int32).toInt = 90 from by decide +kernel] at ha_35
      exfalso; omega
  · skip
    have ha_11 : (97 : Int32).toInt ≤ z_c.toInt := ha_11
    rw [show (97 : Int32).toInt = 97 from by decide +kernel] at ha_11
    have ha_12 : z_c.toInt ≤ (122 : Int32).toInt := ha_12
    rw [show (122 : Int32).toInt = 122 from by decide +kernel] at ha_12
    refine lv_if_ne (pc := 9) (tgt := 24) E.1 E.2.1 dX12_isLetter_9 (by decide) (fun _ => ?_) (fun c_37 => absurd c_37 (mneE (a := 1) (b := 0) (by decide +kernel) (by decide +kernel) (by omega)))
    refine lv_iconst (pc := 24) (v := 1) E.1 E.2.1 dX12_isLetter_24 (by decide +kernel) ?_
    refine lv_goto (pc := 25) (tgt := 29) E.1 E.2.1 dX12_isLetter_25 (by decide) ?_
    exact em_z (w1 := (fun (u : Unit) => (MW cI cJ M mr mi mf mg))) E hr hlk () hw7 (Or.inl ⟨rfl, (by show 65 ≤ z_c.toInt; omega), (by show z_c.toInt ≤ 122; omega)⟩) (by decide +kernel) (Nat.le_of_ble_eq_true rfl) (Nat.le_of_ble_eq_true rfl) dX12_isLetter_29

set_option maxHeartbeats 4000000 in
set_option maxRecDepth 100000 in
theorem s_isDigit2 (l : Launch) (D : va_G) (cI cJ : ClassId) (sz M : Nat) (mr : Nat → Nat) (mi : Nat → Int32) (mf : Nat → Nat → Int32) (mg : Nat → Nat → Int64) (z_c : Int32)  : Met l yX12_isDigit (Cond.code yX12_isDigit cX12_isDigit 2 (some .boolean) :: GW) ({ frames := 2, cells := 0, slots := 0, locals := 63 } : Room) (va_Pc [.ref M, .int z_c] (PW D cI cJ sz (MW cI cJ M mr mi mf mg) xT)) (va_Qi (fun (r : Int32) (u : Unit) => ((r = 1 ∧ 48 ≤ z_c.toInt ∧ z_c.toInt ≤ 57) ∨ (r = 0))) (fun u => QW D cI cJ (va_A (MW cI cJ M mr mi mf mg) sz) ((fun (u : Unit) => (MW cI cJ M mr mi mf mg)) u)) (va_A (MW cI cJ M mr mi mf mg) sz)) 0 0 (va_A (MW cI cJ M mr mi mf mg) sz) := by
  refine mk_met (y := yX12_isDigit) (bytes := cX12_isDigit) (maxL := 2) (avs := [.ref M, .int z_c]) (WS := (MW cI cJ M mr mi mf mg)) (Qf := fun A => va_Qi (fun (r : Int32) (u : Unit) => ((r = 1 ∧ 48 ≤ z_c.toInt ∧ z_c.toInt ≤ 57) ∨ (r = 0))) (fun u => QW D cI cJ A ((fun (u : Unit) => (MW cI cJ M mr mi mf mg)) u)) A) (by decide) (Nat.le_of_ble_eq_true rfl) ?_
  intro p e s m below meth c A ls E hr hlk hnm hX hw1 hl2
  have hl3 : lv_has ls 2 [(0, .ref M), (1, .int z_c)] := hl2
  refine lv_aload_n (pc := 0) E.1 E.2.1 dX12_isDigit_0 rfl (lv_at hl3 0 rfl) ?_
  refine lv_iload_n (pc := 1) E.1 E.2.1 dX12_isDigit_1 rfl (lv_at hl3 1 rfl) ?_
  refine lv_bipush (pc := 2) (v := 48) E.1 E.2.1 dX12_isDigit_2 (by decide +kernel) ?_
  refine lv_bipush (pc := 4) (v := 57) E.1 E.2.1 dX12_isDigit_4 (by decide +kernel) ?_
  refine cm_i (pc := 6) hw1 (rn_M (As := [.int z_c, .int 48, .int 57]) (rest := []) E hw1 (s_isIn l D cI cJ _ M mr mi mf mg z_c 48 57) (gdV q_1622 q_1624 q_46 q_162 q_1625) hdV_X12_isIn ⟨rfl, rfl⟩ ⟨(Nat.le_of_ble_eq_true rfl), (Nat.le_of_ble_eq_true rfl)⟩ ⟨(Nat.le_of_ble_eq_true rfl), (Nat.le_of_ble_eq_true rfl)⟩ 12 rfl rfl rfl rfl hl3.1 rfl (Nat.le_of_ble_eq_true rfl) dX12_isDigit_6) (fun r_5 u_4 H1 locs hp hw6 => ?_)
  generalize H1 = H at hw6 ⊢
  have hw7 : WD D A s.heap (MW cI cJ M mr mi mf mg) H locs := hw6
  have hp_8 := hp
  rcases hp_8 with ⟨rfl, ha_9⟩ | ⟨rfl, ha_10⟩ | ⟨rfl, ha_11, ha_12⟩
  · skip
    have ha_9 : z_c.toInt < (48 : Int32).toInt := ha_9
    rw [show (48 : Int32).toInt = 48 from by decide +kernel] at ha_9
    exact em_z (w1 := (fun (u : Unit) => (MW cI cJ M mr mi mf mg))) E hr hlk () hw7 (Or.inr (rfl)) (by decide +kernel) (Nat.le_of_ble_eq_true rfl) (Nat.le_of_ble_eq_true rfl) dX12_isDigit_9
  · skip
    have ha_10 : (57 : Int32).toInt < z_c.toInt := ha_10
    rw [show (57 : Int32).toInt = 57 from by decide +kernel] at ha_10
    exact em_z (w1 := (fun (u : Unit) => (MW cI cJ M mr mi mf mg))) E hr hlk () hw7 (Or.inr (rfl)) (by decide +kernel) (Nat.le_of_ble_eq_true rfl) (Nat.le_of_ble_eq_true rfl) dX12_isDigit_9
  · skip
    have ha_11 : (48 : Int32).toInt ≤ z_c.toInt := ha_11
    rw [show (48 : Int32).toInt = 48 from by decide +kernel] at ha_11
    have ha_12 : z_c.toInt ≤ (57 : Int32).toInt := ha_12
    rw [show (57 : Int32).toInt = 57 from by decide +kernel] at ha_12
    exact em_z (w1 := (fun (u : Unit) => (MW cI cJ M mr mi mf mg))) E hr hlk () hw7 (Or.inl ⟨rfl, (by show 48 ≤ z_c.toInt; omega), (by show z_c.toInt ≤ 57; omega)⟩) (by decide +kernel) (Nat.le_of_ble_eq_true rfl) (Nat.le_of_ble_eq_true rfl) dX12_isDigit_9

set_option maxHeartbeats 4000000 in
set_option maxRecDepth 100000 in
theorem s_raw3 (l : Launch) (D : va_G) (cI cJ : ClassId) (sz M : Nat) (mr : Nat → Nat) (mi : Nat → Int32) (mf : Nat → Nat → Int32) (mg : Nat → Nat → Int64) (z_k : Int32) (h0 : 0 ≤ z_k.toInt) (h1 : 0 ≤ (mi 21).toInt ∧ (mi 21).toInt ≤ 400) : Met l yX12_raw (Cond.code yX12_raw cX12_raw 2 (some .int) :: GW) ({ frames := 1, cells := 0, slots := 0, locals := 40 } : Room) (va_Pc [.ref M, .int z_k] (PW D cI cJ sz (MW cI cJ M mr mi mf mg) xT)) (va_Qi (fun (r : Int32) (u : Unit) => ((z_k).toInt < (mi 21).toInt → r = (mf 20) (z_k).toNatClampNeg) ∧ (((mi 21).toInt ≤ z_k.toInt ∧ r.toInt = (-1)) ∨ (z_k.toInt ≤ (mi 21).toInt - 1))) (fun u => QW D cI cJ (va_A (MW cI cJ M mr mi mf mg) sz) ((fun (u : Unit) => (MW cI cJ M mr mi mf mg)) u)) (va_A (MW cI cJ M mr mi mf mg) sz)) 0 0 (va_A (MW cI cJ M mr mi mf mg) sz) := by
  refine mk_met (y := yX12_raw) (bytes := cX12_raw) (maxL := 2) (avs := [.ref M, .int z_k]) (WS := (MW cI cJ M mr mi mf mg)) (Qf := fun A => va_Qi (fun (r : Int32) (u : Unit) => ((z_k).toInt < (mi 21).toInt → r = (mf 20) (z_k).toNatClampNeg) ∧ (((mi 21).toInt ≤ z_k.toInt ∧ r.toInt = (-1)) ∨ (z_k.toInt ≤ (mi 21).toInt - 1))) (fun u => QW D cI cJ A ((fun (u : Unit) => (MW cI cJ M mr mi mf mg)) u)) A) (by decide) (Nat.le_of_ble_eq_true rfl) ?_
  intro p e s m below meth c A ls E hr hlk hnm hX hw1 hl2
  have hl3 : lv_has ls 2 [(0, .ref M), (1, .int z_k)] := hl2
  refine lv_iload_n (pc := 0) E.1 E.2.1 dX12_raw_0 rfl (lv_at hl3 1 rfl) ?_
  refine lv_aload_n (pc := 1) E.1 E.2.1 dX12_raw_1 rfl (lv_at hl3 0 rfl) ?_
  refine x_get (pc := 2) (T := TX12) (N := 70) (ci := 12) (v := .int (mi 21)) E hw1 inX12 0 21 q_1420 rfl rfl (by decide) rfl rfl dX12_raw_2 ?_
  refine lv_icmp_ge (pc := 5) (tgt := 17) E.1 E.2.1 dX12_raw_5 (by decide) (fun c_4 => ?_) (fun c_4 => ?_)
  · skip
    have hc_4 := leE (a := (mi 21).toInt) (b := z_k.toInt) rfl rfl c_4
    refine lv_iconst (pc := 17) (v := (-1)) E.1 E.2.1 dX12_raw_17 (by decide +kernel) ?_
    exact em_i (w1 := (fun (u : Unit) => (MW cI cJ M mr mi mf mg))) E hr hlk () hw1 ⟨(show (z_k).toInt < (mi 21).toInt → (-1) = (mf 20) (z_k).toNatClampNeg from (fun h => absurd h (by omega))), (Or.inl ⟨(by show (mi 21).toInt ≤ z_k.toInt; omega), (by show ((-1) : Int32).toInt = (-1); have k_0 : ((-1) : Int32).toInt = -1 := (by decide +kernel); omega)⟩)⟩ (Nat.le_of_ble_eq_true rfl) (Nat.le_of_ble_eq_true rfl) dX12_raw_18
  · skip
    have hc_4 := nleE (a := (mi 21).toInt) (b := z_k.toInt) rfl rfl c_4
    refine lv_aload_n (pc := 8) E.1 E.2.1 dX12_raw_8 rfl (lv_at hl3 0 rfl) ?_
    refine x_get (pc := 9) (T := TX12) (N := 70) (ci := 12) (v := .ref (mr 20)) E hw1 inX12 0 20 q_1419 rfl rfl (by decide) rfl rfl dX12_raw_9 ?_
    refine lv_iload_n (pc := 12) E.1 E.2.1 dX12_raw_12 rfl (lv_at hl3 1 rfl) ?_
    refine x_iald (pc := 13) (f := (mf 20)) E hw1 12 rfl (inbE (a := z_k.toInt) rfl (by omega)) dX12_raw_13 ?_
    refine lv_topi (fun v_5 ev_5 => ?_)
    refine lv_goto (pc := 14) (tgt := 18) E.1 E.2.1 dX12_raw_14 (by decide) ?_
    exact em_i (w1 := (fun (u : Unit) => (MW cI cJ M mr mi mf mg))) E hr hlk () hw1 ⟨(show (z_k).toInt < (mi 21).toInt → v_5 = (mf 20) (z_k).toNatClampNeg from (fun _ => ev_5)), (Or.inr ((by show z_k.toInt ≤ (mi 21).toInt - 1; omega)))⟩ (Nat.le_of_ble_eq_true rfl) (Nat.le_of_ble_eq_true rfl) dX12_raw_18

set_option maxHeartbeats 4000000 in
set_option maxRecDepth 100000 in
theorem s_isWord2 (l : Launch) (D : va_G) (cI cJ : ClassId) (sz M : Nat) (mr : Nat → Nat) (mi : Nat → Int32) (mf : Nat → Nat → Int32) (mg : Nat → Nat → Int64) (z_w : Int32)  : Met l yX12_isWord (Cond.code yX12_isWord cX12_isWord 2 (some .boolean) :: GW) ({ frames := 1, cells := 0, slots := 0, locals := 40 } : Room) (va_Pc [.ref M, .int z_w] (PW D cI cJ sz (MW cI cJ M mr mi mf mg) xT)) (va_Qi (fun (r : Int32) (u : Unit) => ((r = 1 ∧ (mi 24).toInt = 2 ∧ (mi 25).toInt = z_w.toInt) ∨ (r = 0))) (fun u => QW D cI cJ (va_A (MW cI cJ M mr mi mf mg) sz) ((fun (u : Unit) => (MW cI cJ M mr mi mf mg)) u)) (va_A (MW cI cJ M mr mi mf mg) sz)) 0 0 (va_A (MW cI cJ M mr mi mf mg) sz) := by
  refine mk_met (y := yX12_isWord) (bytes := cX12_isWord) (maxL := 2) (avs := [.ref M, .int z_w]) (WS := (MW cI cJ M mr mi mf mg)) (Qf := fun A => va_Qi (fun (r : Int32) (u : Unit) => ((r = 1 ∧ (mi 24).toInt = 2 ∧ (mi 25).toInt = z_w.toInt) ∨ (r = 0))) (fun u => QW D cI cJ A ((fun (u : Unit) => (MW cI cJ M mr mi mf mg)) u)) A) (by decide) (Nat.le_of_ble_eq_true rfl) ?_
  intro p e s m below meth c A ls E hr hlk hnm hX hw1 hl2
  have hl3 : lv_has ls 2 [(0, .ref M), (1, .int z_w)] := hl2
  refine lv_aload_n (pc := 0) E.1 E.2.1 dX12_isWord_0 rfl (lv_at hl3 0 rfl) ?_
  refine x_get (pc := 1) (T := TX12) (N := 70) (ci := 12) (v := .int (mi 24)) E hw1 inX12 0 24 q_1423 rfl rfl (by decide) rfl rfl dX12_isWord_1 ?_
  refine lv_iconst (pc := 4) (v := 2) E.1 E.2.1 dX12_isWord_4 (by decide +kernel) ?_
  refine lv_icmp_ne (pc := 5) (tgt := 20) E.1 E.2.1 dX12_isWord_5 (by decide) (fun c_4 => ?_) (fun c_4 => ?_)
  · skip
    have hc_4 := neE (a := (mi 24).toInt) (b := 2) rfl (by decide +kernel) c_4
    refine lv_iconst (pc := 20) (v := 0) E.1 E.2.1 dX12_isWord_20 (by decide +kernel) ?_
    exact em_z (w1 := (fun (u : Unit) => (MW cI cJ M mr mi mf mg))) E hr hlk () hw1 (Or.inr (rfl)) (by decide +kernel) (Nat.le_of_ble_eq_true rfl) (Nat.le_of_ble_eq_true rfl) dX12_isWord_21
  · skip
    have hc_4 := eqE (a := (mi 24).toInt) (b := 2) rfl (by decide +kernel) c_4
    refine lv_aload_n (pc := 8) E.1 E.2.1 dX12_isWord_8 rfl (lv_at hl3 0 rfl) ?_
    refine x_get (pc := 9) (T := TX12) (N := 70) (ci := 12) (v := .int (mi 25)) E hw1 inX12 0 25 q_1424 rfl rfl (by decide) rfl rfl dX12_isWord_9 ?_
    refine lv_iload_n (pc := 12) E.1 E.2.1 dX12_isWord_12 rfl (lv_at hl3 1 rfl) ?_
    refine lv_icmp_ne (pc := 13) (tgt := 20) E.1 E.2.1 dX12_isWord_13 (by decide) (fun c_5 => ?_) (fun c_5 => ?_)
    · skip
      have hc_5 := neE (a := (mi 25).toInt) (b := z_w.toInt) rfl rfl c_5
      refine lv_iconst (pc := 20) (v := 0) E.1 E.2.1 dX12_isWord_20 (by decide +kernel) ?_
      exact em_z (w1 := (fun (u : Unit) => (MW cI cJ M mr mi mf mg))) E hr hlk () hw1 (Or.inr (rfl)) (by decide +kernel) (Nat.le_of_ble_eq_true rfl) (Nat.le_of_ble_eq_true rfl) dX12_isWord_21
    · skip
      have hc_5 := eqE (a := (mi 25).toInt) (b := z_w.toInt) rfl rfl c_5
      refine lv_iconst (pc := 16) (v := 1) E.1 E.2.1 dX12_isWord_16 (by decide +kernel) ?_
      refine lv_goto (pc := 17) (tgt := 21) E.1 E.2.1 dX12_isWord_17 (by decide) ?_
      exact em_z (w1 := (fun (u : Unit) => (MW cI cJ M mr mi mf mg))) E hr hlk () hw1 (Or.inl ⟨rfl, (by show (mi 24).toInt = 2; omega), (by show (mi 25).toInt = z_w.toInt; omega)⟩) (by decide +kernel) (Nat.le_of_ble_eq_true rfl) (Nat.le_of_ble_eq_true rfl) dX12_isWord_21

set_option maxHeartbeats 4000000 in
set_option maxRecDepth 100000 in
theorem s_isSign2 (l : Launch) (D : va_G) (cI cJ : ClassId) (sz M : Nat) (mr : Nat → Nat) (mi : Nat → Int32) (mf : Nat → Nat → Int32) (mg : Nat → Nat → Int64) (z_c : Int32)  : Met l yX12_isSign (Cond.code yX12_isSign cX12_isSign 2 (some .boolean) :: GW) ({ frames := 1, cells := 0, slots := 0, locals := 40 } : Room) (va_Pc [.ref M, .int z_c] (PW D cI cJ sz (MW cI cJ M mr mi mf mg) xT)) (va_Qi (fun (r : Int32) (u : Unit) => ((r = 1 ∧ (mi 24).toInt = 4 ∧ (mi 25).toInt = z_c.toInt) ∨ (r = 0))) (fun u => QW D cI cJ (va_A (MW cI cJ M mr mi mf mg) sz) ((fun (u : Unit) => (MW cI cJ M mr mi mf mg)) u)) (va_A (MW cI cJ M mr mi mf mg) sz)) 0 0 (va_A (MW cI cJ M mr mi mf mg) sz) := by
  refine mk_met (y := yX12_isSign) (bytes := cX12_isSign) (maxL := 2) (avs := [.ref M, .int z_c]) (WS := (MW cI cJ M mr mi mf mg)) (Qf := fun A => va_Qi (fun (r : Int32) (u : Unit) => ((r = 1 ∧ (mi 24).toInt = 4 ∧ (mi 25).toInt = z_c.toInt) ∨ (r = 0))) (fun u => QW D cI cJ A ((fun (u : Unit) => (MW cI cJ M mr mi mf mg)) u)) A) (by decide) (Nat.le_of_ble_eq_true rfl) ?_
  intro p e s m below meth c A ls E hr hlk hnm hX hw1 hl2
  have hl3 : lv_has ls 2 [(0, .ref M), (1, .int z_c)] := hl2
  refine lv_aload_n (pc := 0) E.1 E.2.1 dX12_isSign_0 rfl (lv_at hl3 0 rfl) ?_
  refine x_get (pc := 1) (T := TX12) (N := 70) (ci := 12) (v := .int (mi 24)) E hw1 inX12 0 24 q_1423 rfl rfl (by decide) rfl rfl dX12_isSign_1 ?_
  refine lv_iconst (pc := 4) (v := 4) E.1 E.2.1 dX12_isSign_4 (by decide +kernel) ?_
  refine lv_icmp_ne (pc := 5) (tgt := 20) E.1 E.2.1 dX12_isSign_5 (by decide) (fun c_4 => ?_) (fun c_4 => ?_)
  · skip
    have hc_4 := neE (a := (mi 24).toInt) (b := 4) rfl (by decide +kernel) c_4
    refine lv_iconst (pc := 20) (v := 0) E.1 E.2.1 dX12_isSign_20 (by decide +kernel) ?_
    exact em_z (w1 := (fun (u : Unit) => (MW cI cJ M mr mi mf mg))) E hr hlk () hw1 (Or.inr (rfl)) (by decide +kernel) (Nat.le_of_ble_eq_true rfl) (Nat.le_of_ble_eq_true rfl) dX12_isSign_21
  · skip
    have hc_4 := eqE (a := (mi 24).toInt) (b := 4) rfl (by decide +kernel) c_4
    refine lv_aload_n (pc := 8) E.1 E.2.1 dX12_isSign_8 rfl (lv_at hl3 0 rfl) ?_
    refine x_get (pc := 9) (T := TX12) (N := 70) (ci := 12) (v := .int (mi 25)) E hw1 inX12 0 25 q_1424 rfl rfl (by decide) rfl rfl dX12_isSign_9 ?_
    refine lv_iload_n (pc := 12) E.1 E.2.1 dX12_isSign_12 rfl (lv_at hl3 1 rfl) ?_
    refine lv_icmp_ne (pc := 13) (tgt := 20) E.1 E.2.1 dX12_isSign_13 (by decide) (fun c_5 => ?_) (fun c_5 => ?_)
    · skip
      have hc_5 := neE (a := (mi 25).toInt) (b := z_c.toInt) rfl rfl c_5
      refine lv_iconst (pc := 20) (v := 0) E.1 E.2.1 dX12_isSign_20 (by decide +kernel) ?_
      exact em_z (w1 := (fun (u : Unit) => (MW cI cJ M mr mi mf mg))) E hr hlk () hw1 (Or.inr (rfl)) (by decide +kernel) (Nat.le_of_ble_eq_true rfl) (Nat.le_of_ble_eq_true rfl) dX12_isSign_21
    · skip
      have hc_5 := eqE (a := (mi 25).toInt) (b := z_c.toInt) rfl rfl c_5
      refine lv_iconst (pc := 16) (v := 1) E.1 E.2.1 dX12_isSign_16 (by decide +kernel) ?_
      refine lv_goto (pc := 17) (tgt := 21) E.1 E.2.1 dX12_isSign_17 (by decide) ?_
      exact em_z (w1 := (fun (u : Unit) => (MW cI cJ M mr mi mf mg))) E hr hlk () hw1 (Or.inl ⟨rfl, (by show (mi 24).toInt = 4; omega), (by show (mi 25).toInt = z_c.toInt; omega)⟩) (by decide +kernel) (Nat.le_of_ble_eq_true rfl) (Nat.le_of_ble_eq_true rfl) dX12_isSign_21

set_option maxHeartbeats 4000000 in
set_option maxRecDepth 100000 in
theorem s_errs2 (l : Launch) (D : va_G) (cI cJ : ClassId) (sz M : Nat) (mr : Nat → Nat) (mi : Nat → Int32) (mf : Nat → Nat → Int32) (mg : Nat → Nat → Int64) (z_k : Int32)  : Met l yX12_errs (Cond.code yX12_errs cX12_errs 2 (some .int) :: GW) ({ frames := 1, cells := 0, slots := 0, locals := 40 } : Room) (va_Pc [.ref M, .int z_k] (PW D cI cJ sz (MW cI cJ M mr mi mf mg) xT)) (va_Qi (fun (r : Int32) (u : Int32 × Int32) => ((r = (-1)))) (fun u => QW D cI cJ (va_A (MW cI cJ M mr mi mf mg) sz) ((fun (u : Int32 × Int32) => (MW cI cJ M mr (upd (upd mi 38 u.1) 39 u.2) mf mg)) u)) (va_A (MW cI cJ M mr mi mf mg) sz)) 0 0 (va_A (MW cI cJ M mr mi mf mg) sz) := by
  refine mk_met (y := yX12_errs) (bytes := cX12_errs) (maxL := 2) (avs := [.ref M, .int z_k]) (WS := (MW cI cJ M mr mi mf mg)) (Qf := fun A => va_Qi (fun (r : Int32) (u : Int32 × Int32) => ((r = (-1)))) (fun u => QW D cI cJ A ((fun (u : Int32 × Int32) => (MW cI cJ M mr (upd (upd mi 38 u.1) 39 u.2) mf mg)) u)) A) (by decide) (Nat.le_of_ble_eq_true rfl) ?_
  intro p e s m below meth c A ls E hr hlk hnm hX hw1 hl2
  have hl3 : lv_has ls 2 [(0, .ref M), (1, .int z_k)] := hl2
  refine lv_aload_n (pc := 0) E.1 E.2.1 dX12_errs_0 rfl (lv_at hl3 0 rfl) ?_
  refine lv_iload_n (pc := 1) E.1 E.2.1 dX12_errs_1 rfl (lv_at hl3 1 rfl) ?_
  refine x_put (pc := 2) (T := TX12) (N := 70) (ci := 12) (ws' := (MW cI cJ M mr (upd mi 38 z_k) mf mg)) E hw1 inX12 tyX12_ok nmX12 0 38 q_1437 rfl rfl (by decide) rfl rfl rfl rfl (Nat.le_of_ble_eq_true rfl) rfl dX12_errs_2 (fun H locs hw4 => ?_)
  refine lv_aload_n (pc := 5) E.1 E.2.1 dX12_errs_5 rfl (lv_at hl3 0 rfl) ?_
  refine lv_aload_n (pc := 6) E.1 E.2.1 dX12_errs_6 rfl (lv_at hl3 0 rfl) ?_
  refine x_get (pc := 7) (T := TX12) (N := 70) (ci := 12) (v := .int (mi 23)) E hw4 inX12 0 23 q_1422 rfl rfl (by decide) rfl rfl dX12_errs_7 ?_
  refine x_put (pc := 10) (T := TX12) (N := 70) (ci := 12) (ws' := (MW cI cJ M mr (upd (upd mi 38 z_k) 39 (mi 23)) mf mg)) E hw4 inX12 tyX12_ok nmX12 0 39 q_1438 rfl rfl (by decide) rfl rfl rfl rfl (Nat.le_of_ble_eq_true rfl) rfl dX12_errs_10 (fun H locs hw5 => ?_)
  refine lv_iconst (pc := 13) (v := (-1)) E.1 E.2.1 dX12_errs_13 (by decide +kernel) ?_
  exact em_i (w1 := (fun (u : Int32 × Int32) => (MW cI cJ M mr (upd (upd mi 38 u.1) 39 u.2) mf mg))) E hr hlk (z_k, (mi 23)) hw5 (rfl) (Nat.le_of_ble_eq_true rfl) (Nat.le_of_ble_eq_true rfl) dX12_errs_14

set_option maxHeartbeats 4000000 in
set_option maxRecDepth 100000 in
theorem s_wordAt (l : Launch) (D : va_G) (cI cJ : ClassId) (sz M : Nat) (mr : Nat → Nat) (mi : Nat → Int32) (mf : Nat → Nat → Int32) (mg : Nat → Nat → Int64) (z_a : Int32) (z_b : Int32) (h0 : 0 ≤ z_a.toInt) (h1 : z_a.toInt ≤ z_b.toInt) (h2 : z_b.toInt ≤ 400) (h3 : ((mf 26) 153).toInt = 32) (x_let : LT (mf 20) (z_a).toInt (z_b).toInt) : Met l yX12_wordAt (Cond.code yX12_wordAt cX12_wordAt 6 (some .int) :: GW) ({ frames := 1, cells := 0, slots := 0, locals := 40 } : Room) (va_Pc [.ref M, .int z_a, .int z_b] (PW D cI cJ sz (MW cI cJ M mr mi mf mg) xT)) (va_Qi (fun (r : Int32) (u : Unit) => True) (fun u => QW D cI cJ (va_A (MW cI cJ M mr mi mf mg) sz) ((fun (u : Unit) => (MW cI cJ M mr mi mf mg)) u)) (va_A (MW cI cJ M mr mi mf mg) sz)) 0 0 (va_A (MW cI cJ M mr mi mf mg) sz) := by
  refine mk_met (y := yX12_wordAt) (bytes := cX12_wordAt) (maxL := 6) (avs := [.ref M, .int z_a, .int z_b]) (WS := (MW cI cJ M mr mi mf mg)) (Qf := fun A => va_Qi (fun (r : Int32) (u : Unit) => True) (fun u => QW D cI cJ A ((fun (u : Unit) => (MW cI cJ M mr mi mf mg)) u)) A) (by decide) (Nat.le_of_ble_eq_true rfl) ?_
  intro p e s m below meth c A ls E hr hlk hnm hX hw1 hl2
  have hl3 : lv_has ls 6 [(0, .ref M), (1, .int z_a), (2, .int z_b)] := hl2
  refine lv_iconst (pc := 0) (v := (-1)) E.1 E.2.1 dX12_wordAt_0 (by decide +kernel) ?_
  refine lv_istore_n (pc := 1) (lv' := [(3, .int (-1)), (0, .ref M), (1, .int z_a), (2, .int z_b)]) E.1 E.2.1 dX12_wordAt_1 rfl hl3 (by decide) rfl (fun ls hl4 => ?_)
  refine lv_iconst (pc := 2) (v := 0) E.1 E.2.1 dX12_wordAt_2 (by decide +kernel) ?_
  refine lv_istore (pc := 3) (lv' := [(4, .int 0), (3, .int (-1)), (0, .ref M), (1, .int z_a), (2, .int z_b)]) E.1 E.2.1 dX12_wordAt_3 hl4 (by decide) rfl (fun ls hl5 => ?_)
  have loop_6 : ∀ (k : Nat) (x_7 : Int32) (x_8 : Int32) (H : Heap) (locs : List Loc) (ls : Array Slot), (0 ≤ x_7.toInt ∧ x_7.toInt ≤ 153) → 153 - x_7.toInt < (k : Int) → WD D A s.heap (MW cI cJ M mr mi mf mg) H locs → lv_has ls 6 [(4, .int x_7), (3, .int x_8), (0, .ref M), (1, .int z_a), (2, .int z_b)] → W p l e ({ frames := 1, cells := 0, slots := 0, locals := 40 } : Room) s m ([.ref M, .int z_a, .int z_b] : List Value).toArray below meth c H locs 0 0 (MQ below (va_Qi (fun (r : Int32) (u : Unit) => True) (fun u => QW D cI cJ A ((fun (u : Unit) => (MW cI cJ M mr mi mf mg)) u)) A) ([.ref M, .int z_a, .int z_b] : List Value).toArray s 0 0 A) (F0 m 5 ls []) := by
    intro k
    induction k with
    | zero =>
      intro x_7 x_8 _ _ _ hinv hm
      obtain hi_8_0 := hinv
      exact absurd hm (by omega)
    | succ k ih_9 =>
      intro x_7 x_8 H locs ls hinv hm hw10 hl11
      obtain hi_8_0 := hinv
      refine lv_iload (pc := 5) E.1 E.2.1 dX12_wordAt_5 (lv_at hl11 0 rfl) ?_
      refine lv_sipush (pc := 7) (v := 153) E.1 E.2.1 dX12_wordAt_7 (by decide +kernel) ?_
      refine lv_icmp_ge (pc := 10) (tgt := 118) E.1 E.2.1 dX12_wordAt_10 (by decide) (fun c_12 => ?_) (fun c_12 => ?_)
      · skip
        have hc_12 := leE (a := 153) (b := x_7.toInt) (by decide +kernel) rfl c_12
        refine lv_iconst (pc := 118) (v := (-1)) E.1 E.2.1 dX12_wordAt_118 (by decide +kernel) ?_
        exact em_i (w1 := (fun (u : Unit) => (MW cI cJ M mr mi mf mg))) E hr hlk () hw10 trivial (Nat.le_of_ble_eq_true rfl) (Nat.le_of_ble_eq_true rfl) dX12_wordAt_119
      · skip
        have hc_12 := nleE (a := 153) (b := x_7.toInt) (by decide +kernel) rfl c_12
        refine lv_iconst (pc := 13) (v := 0) E.1 E.2.1 dX12_wordAt_13 (by decide +kernel) ?_
        refine lv_istore (pc := 14) (lv' := [(5, .int 0), (4, .int x_7), (3, .int x_8), (0, .ref M), (1, .int z_a), (2, .int z_b)]) E.1 E.2.1 dX12_wordAt_14 hl11 (by decide) rfl (fun ls hl13 => ?_)
        refine lv_iload_n (pc := 16) E.1 E.2.1 dX12_wordAt_16 rfl (lv_at hl13 2 rfl) ?_
        refine lv_iconst (pc := 17) (v := 1) E.1 E.2.1 dX12_wordAt_17 (by decide +kernel) ?_
        refine lv_iadd (pc := 18) E.1 E.2.1 dX12_wordAt_18 ?_
        refine lv_topi (fun v_14 ev_14 => ?_)
        refine lv_istore_n (pc := 19) (lv' := [(3, .int v_14), (5, .int 0), (4, .int x_7), (0, .ref M), (1, .int z_a), (2, .int z_b)]) E.1 E.2.1 dX12_wordAt_19 rfl hl13 (by decide) rfl (fun ls hl15 => ?_)
        have loop_16 : ∀ (k : Nat) (x_17 : Int32) (H : Heap) (locs : List Loc) (ls : Array Slot), (0 ≤ x_17.toInt) ∧ (z_a.toInt + x_17.toInt ≤ z_b.toInt) ∧ (x_7.toInt + 1 + x_17.toInt ≤ 153) → 400 - x_17.toInt < (k : Int) → WD D A s.heap (MW cI cJ M mr mi mf mg) H locs → lv_has ls 6 [(3, .int v_14), (5, .int x_17), (4, .int x_7), (0, .ref M), (1, .int z_a), (2, .int z_b)] → W p l e ({ frames := 1, cells := 0, slots := 0, locals := 40 } : Room) s m ([.ref M, .int z_a, .int z_b] : List Value).toArray below meth c H locs 0 0 (MQ below (va_Qi (fun (r : Int32) (u : Unit) => True) (fun u => QW D cI cJ A ((fun (u : Unit) => (MW cI cJ M mr mi mf mg)) u)) A) ([.ref M, .int z_a, .int z_b] : List Value).toArray s 0 0 A) (F0 m 20 ls []) := by
          intro k
          induction k with
          | zero =>
            intro x_17 _ _ _ hinv hm
            obtain ⟨hi_17_0, hi_17_1, hi_17_2⟩ := hinv
            exact absurd hm (by omega)
          | succ k ih_18 =>
            intro x_17 H locs ls hinv hm hw19 hl20
            obtain ⟨hi_17_0, hi_17_1, hi_17_2⟩ := hinv
            refine lv_iload_n (pc := 20) E.1 E.2.1 dX12_wordAt_20 rfl (lv_at hl20 4 rfl) ?_
            refine lv_iload (pc := 21) E.1 E.2.1 dX12_wordAt_21 (lv_at hl20 1 rfl) ?_
            refine lv_iadd (pc := 23) E.1 E.2.1 dX12_wordAt_23 ?_
            refine lv_topi (fun v_21 ev_21 => ?_)
            have hv_21 : v_21.toInt = z_a.toInt + x_17.toInt := by rw [ev_21]; exact addE rfl rfl (by omega)
            refine lv_iload_n (pc := 24) E.1 E.2.1 dX12_wordAt_24 rfl (lv_at hl20 5 rfl) ?_
            refine lv_icmp_ge (pc := 25) (tgt := 61) E.1 E.2.1 dX12_wordAt_25 (by decide) (fun c_22 => ?_) (fun c_22 => ?_)
            · skip
              have hc_22 := leE (a := z_b.toInt) (b := v_21.toInt) rfl rfl c_22
              refine lv_iload_n (pc := 61) E.1 E.2.1 dX12_wordAt_61 rfl (lv_at hl20 4 rfl) ?_
              refine lv_iload (pc := 62) E.1 E.2.1 dX12_wordAt_62 (lv_at hl20 1 rfl) ?_
              refine lv_iadd (pc := 64) E.1 E.2.1 dX12_wordAt_64 ?_
              refine lv_topi (fun v_23 ev_23 => ?_)
              have hv_23 : v_23.toInt = z_a.toInt + x_17.toInt := by rw [ev_23]; exact addE rfl rfl (by omega)
              refine lv_iload_n (pc := 65) E.1 E.2.1 dX12_wordAt_65 rfl (lv_at hl20 5 rfl) ?_
              refine lv_icmp_ne (pc := 66) (tgt := 88) E.1 E.2.1 dX12_wordAt_66 (by decide) (fun c_24 => absurd (meqE (a := v_23.toInt) (b := z_b.toInt) rfl rfl (by omega)) c_24) (fun _ => ?_)
              refine lv_aload_n (pc := 69) E.1 E.2.1 dX12_wordAt_69 rfl (lv_at hl20 3 rfl) ?_
              refine x_get (pc := 70) (T := TX12) (N := 70) (ci := 12) (v := .ref (mr 26)) E hw19 inX12 0 26 q_1425 rfl rfl (by decide) rfl rfl dX12_wordAt_70 ?_
              refine lv_iload (pc := 73) E.1 E.2.1 dX12_wordAt_73 (lv_at hl20 2 rfl) ?_
              refine lv_iconst (pc := 75) (v := 1) E.1 E.2.1 dX12_wordAt_75 (by decide +kernel) ?_
              refine lv_iadd (pc := 76) E.1 E.2.1 dX12_wordAt_76 ?_
              refine lv_topi (fun v_25 ev_25 => ?_)
              have hv_25 : v_25.toInt = x_7.toInt + 1 := by rw [ev_25]; exact addE rfl (by decide +kernel) (by omega)
              refine lv_iload (pc := 77) E.1 E.2.1 dX12_wordAt_77 (lv_at hl20 1 rfl) ?_
              refine lv_iadd (pc := 79) E.1 E.2.1 dX12_wordAt_79 ?_
              refine lv_topi (fun v_26 ev_26 => ?_)
              have hv_26 : v_26.toInt = v_25.toInt + x_17.toInt := by rw [ev_26]; exact addE rfl rfl (by omega)
              refine x_iald (pc := 80) (f := (mf 26)) E hw19 13 rfl (inbE (a := v_26.toInt) rfl (by omega)) dX12_wordAt_80 ?_
              refine lv_topi (fun v_27 ev_27 => ?_)
              refine lv_bipush (pc := 81) (v := 32) E.1 E.2.1 dX12_wordAt_81 (by decide +kernel) ?_
              refine lv_icmp_ne (pc := 83) (tgt := 88) E.1 E.2.1 dX12_wordAt_83 (by decide) (fun c_28 => ?_) (fun c_28 => ?_)
              · skip
                have hc_28 := neE (a := v_27.toInt) (b := 32) rfl (by decide +kernel) c_28
                refine lv_iload (pc := 88) E.1 E.2.1 dX12_wordAt_88 (lv_at hl20 2 rfl) ?_
                refine lv_iconst (pc := 90) (v := 1) E.1 E.2.1 dX12_wordAt_90 (by decide +kernel) ?_
                refine lv_iadd (pc := 91) E.1 E.2.1 dX12_wordAt_91 ?_
                refine lv_topi (fun v_29 ev_29 => ?_)
                have hv_29 : v_29.toInt = x_7.toInt + 1 := by rw [ev_29]; exact addE rfl (by decide +kernel) (by omega)
                refine lv_istore (pc := 92) (lv' := [(4, .int v_29), (3, .int v_14), (5, .int x_17), (0, .ref M), (1, .int z_a), (2, .int z_b)]) E.1 E.2.1 dX12_wordAt_92 hl20 (by decide) rfl (fun ls hl30 => ?_)
                have loop_31 : ∀ (k : Nat) (x_32 : Int32) (H : Heap) (locs : List Loc) (ls : Array Slot), (x_7.toInt + 1 ≤ x_32.toInt) ∧ (x_32.toInt ≤ 153) → 153 - x_32.toInt < (k : Int) → WD D A s.heap (MW cI cJ M mr mi mf mg) H locs → lv_has ls 6 [(4, .int x_32), (3, .int v_14), (0, .ref M), (1, .int z_a), (2, .int z_b)] → W p l e ({ frames := 1, cells := 0, slots := 0, locals := 40 } : Room) s m ([.ref M, .int z_a, .int z_b] : List Value).toArray below meth c H locs 0 0 (MQ below (va_Qi (fun (r : Int32) (u : Unit) => True) (fun u => QW D cI cJ A ((fun (u : Unit) => (MW cI cJ M mr mi mf mg)) u)) A) ([.ref M, .int z_a, .int z_b] : List Value).toArray s 0 0 A) (F0 m 94 ls []) := by
                  intro k
                  induction k with
                  | zero =>
                    intro x_32 _ _ _ hinv hm
                    obtain ⟨hi_32_0, hi_32_1⟩ := hinv
                    exact absurd hm (by omega)
                  | succ k ih_33 =>
                    intro x_32 H locs ls hinv hm hw34 hl35
                    obtain ⟨hi_32_0, hi_32_1⟩ := hinv
                    refine lv_aload_n (pc := 94) E.1 E.2.1 dX12_wordAt_94 rfl (lv_at hl35 2 rfl) ?_
                    refine x_get (pc := 95) (T := TX12) (N := 70) (ci := 12) (v := .ref (mr 26)) E hw34 inX12 0 26 q_1425 rfl rfl (by decide) rfl rfl dX12_wordAt_95 ?_
                    refine lv_iload (pc := 98) E.1 E.2.1 dX12_wordAt_98 (lv_at hl35 0 rfl) ?_
                    refine x_iald (pc := 100) (f := (mf 26)) E hw34 13 rfl (inbE (a := x_32.toInt) rfl (by omega)) dX12_wordAt_100 ?_
                    refine lv_topi (fun v_36 ev_36 => ?_)
                    refine lv_bipush (pc := 101) (v := 32) E.1 E.2.1 dX12_wordAt_101 (by decide +kernel) ?_
                    refine lv_icmp_eq (pc := 103) (tgt := 115) E.1 E.2.1 dX12_wordAt_103 (by decide) (fun c_37 => ?_) (fun c_37 => ?_)
                    · skip
                      have hc_37 := eqE (a := v_36.toInt) (b := 32) rfl (by decide +kernel) c_37
                      refine lv_goto (pc := 115) (tgt := 5) E.1 E.2.1 dX12_wordAt_115 (by decide) ?_
                      exact ih_9 x_32 v_14 _ _ _ (by show 0 ≤ x_32.toInt ∧ x_32.toInt ≤ 153; omega) (by omega) hw34 (lv_sub hl35 [0, 1, 2, 3, 4] rfl)
                    · skip
                      have hc_37 := neE (a := v_36.toInt) (b := 32) rfl (by decide +kernel) c_37
                      have hz37 := wd_stop2 ev_36 (by omega) (by omega)
                      refine lv_iload (pc := 106) E.1 E.2.1 dX12_wordAt_106 (lv_at hl35 0 rfl) ?_
                      refine lv_iconst (pc := 108) (v := 1) E.1 E.2.1 dX12_wordAt_108 (by decide +kernel) ?_
                      refine lv_iadd (pc := 109) E.1 E.2.1 dX12_wordAt_109 ?_
                      refine lv_topi (fun v_38 ev_38 => ?_)
                      have hv_38 : v_38.toInt = x_32.toInt + 1 := by rw [ev_38]; exact addE rfl (by decide +kernel) (by omega)
                      refine lv_istore (pc := 110) (lv' := [(4, .int v_38), (3, .int v_14), (0, .ref M), (1, .int z_a), (2, .int z_b)]) E.1 E.2.1 dX12_wordAt_110 hl35 (by decide) rfl (fun ls hl39 => ?_)
                      refine lv_goto (pc := 112) (tgt := 94) E.1 E.2.1 dX12_wordAt_112 (by decide) ?_
                      exact ih_33 v_38 _ _ _ ⟨(by show x_7.toInt + 1 ≤ v_38.toInt; omega), (by show v_38.toInt ≤ 153; omega)⟩ (by omega) hw34 (lv_sub hl39 [0, 1, 2, 3, 4] rfl)
                exact loop_31 (Int.toNat (153 - v_29.toInt) + 1) v_29 _ _ _ ⟨(by show x_7.toInt + 1 ≤ v_29.toInt; omega), (by show v_29.toInt ≤ 153; omega)⟩ (by omega) hw19 (lv_sub hl30 [0, 1, 3, 4, 5] rfl)
              · skip
                have hc_28 := eqE (a := v_27.toInt) (b := 32) rfl (by decide +kernel) c_28
                refine lv_iload_n (pc := 86) E.1 E.2.1 dX12_wordAt_86 rfl (lv_at hl20 0 rfl) ?_
                exact em_i (w1 := (fun (u : Unit) => (MW cI cJ M mr mi mf mg))) E hr hlk () hw19 trivial (Nat.le_of_ble_eq_true rfl) (Nat.le_of_ble_eq_true rfl) dX12_wordAt_87
            · skip
              have hc_22 := nleE (a := z_b.toInt) (b := v_21.toInt) rfl rfl c_22
              refine lv_aload_n (pc := 28) E.1 E.2.1 dX12_wordAt_28 rfl (lv_at hl20 3 rfl) ?_
              refine x_get (pc := 29) (T := TX12) (N := 70) (ci := 12) (v := .ref (mr 26)) E hw19 inX12 0 26 q_1425 rfl rfl (by decide) rfl rfl dX12_wordAt_29 ?_
              refine lv_iload (pc := 32) E.1 E.2.1 dX12_wordAt_32 (lv_at hl20 2 rfl) ?_
              refine lv_iconst (pc := 34) (v := 1) E.1 E.2.1 dX12_wordAt_34 (by decide +kernel) ?_
              refine lv_iadd (pc := 35) E.1 E.2.1 dX12_wordAt_35 ?_
              refine lv_topi (fun v_40 ev_40 => ?_)
              have hv_40 : v_40.toInt = x_7.toInt + 1 := by rw [ev_40]; exact addE rfl (by decide +kernel) (by omega)
              refine lv_iload (pc := 36) E.1 E.2.1 dX12_wordAt_36 (lv_at hl20 1 rfl) ?_
              refine lv_iadd (pc := 38) E.1 E.2.1 dX12_wordAt_38 ?_
              refine lv_topi (fun v_41 ev_41 => ?_)
              have hv_41 : v_41.toInt = v_40.toInt + x_17.toInt := by rw [ev_41]; exact addE rfl rfl (by omega)
              refine x_iald (pc := 39) (f := (mf 26)) E hw19 13 rfl (inbE (a := v_41.toInt) rfl (by omega)) dX12_wordAt_39 ?_
              refine lv_topi (fun v_42 ev_42 => ?_)
              refine lv_aload_n (pc := 40) E.1 E.2.1 dX12_wordAt_40 rfl (lv_at hl20 3 rfl) ?_
              refine x_get (pc := 41) (T := TX12) (N := 70) (ci := 12) (v := .ref (mr 20)) E hw19 inX12 0 20 q_1419 rfl rfl (by decide) rfl rfl dX12_wordAt_41 ?_
              refine lv_iload_n (pc := 44) E.1 E.2.1 dX12_wordAt_44 rfl (lv_at hl20 4 rfl) ?_
              refine lv_iload (pc := 45) E.1 E.2.1 dX12_wordAt_45 (lv_at hl20 1 rfl) ?_
              refine lv_iadd (pc := 47) E.1 E.2.1 dX12_wordAt_47 ?_
              refine lv_topi (fun v_43 ev_43 => ?_)
              have hv_43 : v_43.toInt = z_a.toInt + x_17.toInt := by rw [ev_43]; exact addE rfl rfl (by omega)
              refine x_iald (pc := 48) (f := (mf 20)) E hw19 12 rfl (inbE (a := v_43.toInt) rfl (by omega)) dX12_wordAt_48 ?_
              refine lv_topi (fun v_44 ev_44 => ?_)
              refine lv_icmp_ne (pc := 49) (tgt := 61) E.1 E.2.1 dX12_wordAt_49 (by decide) (fun c_45 => ?_) (fun c_45 => ?_)
              · skip
                have hc_45 := neE (a := v_42.toInt) (b := v_44.toInt) rfl rfl c_45
                refine lv_iload_n (pc := 61) E.1 E.2.1 dX12_wordAt_61 rfl (lv_at hl20 4 rfl) ?_
                refine lv_iload (pc := 62) E.1 E.2.1 dX12_wordAt_62 (lv_at hl20 1 rfl) ?_
                refine lv_iadd (pc := 64) E.1 E.2.1 dX12_wordAt_64 ?_
                refine lv_topi (fun v_46 ev_46 => ?_)
                have hv_46 : v_46.toInt = z_a.toInt + x_17.toInt := by rw [ev_46]; exact addE rfl rfl (by omega)
                refine lv_iload_n (pc := 65) E.1 E.2.1 dX12_wordAt_65 rfl (lv_at hl20 5 rfl) ?_
                refine lv_icmp_ne (pc := 66) (tgt := 88) E.1 E.2.1 dX12_wordAt_66 (by decide) (fun _ => ?_) (fun c_47 => absurd c_47 (mneE (a := v_46.toInt) (b := z_b.toInt) rfl rfl (by omega)))
                refine lv_iload (pc := 88) E.1 E.2.1 dX12_wordAt_88 (lv_at hl20 2 rfl) ?_
                refine lv_iconst (pc := 90) (v := 1) E.1 E.2.1 dX12_wordAt_90 (by decide +kernel) ?_
                refine lv_iadd (pc := 91) E.1 E.2.1 dX12_wordAt_91 ?_
                refine lv_topi (fun v_48 ev_48 => ?_)
                have hv_48 : v_48.toInt = x_7.toInt + 1 := by rw [ev_48]; exact addE rfl (by decide +kernel) (by omega)
                refine lv_istore (pc := 92) (lv' := [(4, .int v_48), (3, .int v_14), (5, .int x_17), (0, .ref M), (1, .int z_a), (2, .int z_b)]) E.1 E.2.1 dX12_wordAt_92 hl20 (by decide) rfl (fun ls hl49 => ?_)
                have loop_50 : ∀ (k : Nat) (x_51 : Int32) (H : Heap) (locs : List Loc) (ls : Array Slot), (x_7.toInt + 1 ≤ x_51.toInt) ∧ (x_51.toInt ≤ 153) → 153 - x_51.toInt < (k : Int) → WD D A s.heap (MW cI cJ M mr mi mf mg) H locs → lv_has ls 6 [(4, .int x_51), (3, .int v_14), (0, .ref M), (1, .int z_a), (2, .int z_b)] → W p l e ({ frames := 1, cells := 0, slots := 0, locals := 40 } : Room) s m ([.ref M, .int z_a, .int z_b] : List Value).toArray below meth c H locs 0 0 (MQ below (va_Qi (fun (r : Int32) (u : Unit) => True) (fun u => QW D cI cJ A ((fun (u : Unit) => (MW cI cJ M mr mi mf mg)) u)) A) ([.ref M, .int z_a, .int z_b] : List Value).toArray s 0 0 A) (F0 m 94 ls []) := by
                  intro k
                  induction k with
                  | zero =>
                    intro x_51 _ _ _ hinv hm
                    obtain ⟨hi_51_0, hi_51_1⟩ := hinv
                    exact absurd hm (by omega)
                  | succ k ih_52 =>
                    intro x_51 H locs ls hinv hm hw53 hl54
                    obtain ⟨hi_51_0, hi_51_1⟩ := hinv
                    refine lv_aload_n (pc := 94) E.1 E.2.1 dX12_wordAt_94 rfl (lv_at hl54 2 rfl) ?_
                    refine x_get (pc := 95) (T := TX12) (N := 70) (ci := 12) (v := .ref (mr 26)) E hw53 inX12 0 26 q_1425 rfl rfl (by decide) rfl rfl dX12_wordAt_95 ?_
                    refine lv_iload (pc := 98) E.1 E.2.1 dX12_wordAt_98 (lv_at hl54 0 rfl) ?_
                    refine x_iald (pc := 100) (f := (mf 26)) E hw53 13 rfl (inbE (a := x_51.toInt) rfl (by omega)) dX12_wordAt_100 ?_
                    refine lv_topi (fun v_55 ev_55 => ?_)
                    refine lv_bipush (pc := 101) (v := 32) E.1 E.2.1 dX12_wordAt_101 (by decide +kernel) ?_
                    refine lv_icmp_eq (pc := 103) (tgt := 115) E.1 E.2.1 dX12_wordAt_103 (by decide) (fun c_56 => ?_) (fun c_56 => ?_)
                    · skip
                      have hc_56 := eqE (a := v_55.toInt) (b := 32) rfl (by decide +kernel) c_56
                      refine lv_goto (pc := 115) (tgt := 5) E.1 E.2.1 dX12_wordAt_115 (by decide) ?_
                      exact ih_9 x_51 v_14 _ _ _ (by show 0 ≤ x_51.toInt ∧ x_51.toInt ≤ 153; omega) (by omega) hw53 (lv_sub hl54 [0, 1, 2, 3, 4] rfl)
                    · skip
                      have hc_56 := neE (a := v_55.toInt) (b := 32) rfl (by decide +kernel) c_56
                      have hz56 := wd_stop2 ev_55 (by omega) (by omega)
                      refine lv_iload (pc := 106) E.1 E.2.1 dX12_wordAt_106 (lv_at hl54 0 rfl) ?_
                      refine lv_iconst (pc := 108) (v := 1) E.1 E.2.1 dX12_wordAt_108 (by decide +kernel) ?_
                      refine lv_iadd (pc := 109) E.1 E.2.1 dX12_wordAt_109 ?_
                      refine lv_topi (fun v_57 ev_57 => ?_)
                      have hv_57 : v_57.toInt = x_51.toInt + 1 := by rw [ev_57]; exact addE rfl (by decide +kernel) (by omega)
                      refine lv_istore (pc := 110) (lv' := [(4, .int v_57), (3, .int v_14), (0, .ref M), (1, .int z_a), (2, .int z_b)]) E.1 E.2.1 dX12_wordAt_110 hl54 (by decide) rfl (fun ls hl58 => ?_)
                      refine lv_goto (pc := 112) (tgt := 94) E.1 E.2.1 dX12_wordAt_112 (by decide) ?_
                      exact ih_52 v_57 _ _ _ ⟨(by show x_7.toInt + 1 ≤ v_57.toInt; omega), (by show v_57.toInt ≤ 153; omega)⟩ (by omega) hw53 (lv_sub hl58 [0, 1, 2, 3, 4] rfl)
                exact loop_50 (Int.toNat (153 - v_48.toInt) + 1) v_48 _ _ _ ⟨(by show x_7.toInt + 1 ≤ v_48.toInt; omega), (by show v_48.toInt ≤ 153; omega)⟩ (by omega) hw19 (lv_sub hl49 [0, 1, 3, 4, 5] rfl)
              · skip
                have hc_45 := eqE (a := v_42.toInt) (b := v_44.toInt) rfl rfl c_45
                have hz58 := wd_stop ev_42 ev_44 (by omega) (by omega) x_let (by omega) (by omega)
                refine lv_iload (pc := 52) E.1 E.2.1 dX12_wordAt_52 (lv_at hl20 1 rfl) ?_
                refine lv_iconst (pc := 54) (v := 1) E.1 E.2.1 dX12_wordAt_54 (by decide +kernel) ?_
                refine lv_iadd (pc := 55) E.1 E.2.1 dX12_wordAt_55 ?_
                refine lv_topi (fun v_59 ev_59 => ?_)
                have hv_59 : v_59.toInt = x_17.toInt + 1 := by rw [ev_59]; exact addE rfl (by decide +kernel) (by omega)
                refine lv_istore (pc := 56) (lv' := [(5, .int v_59), (3, .int v_14), (4, .int x_7), (0, .ref M), (1, .int z_a), (2, .int z_b)]) E.1 E.2.1 dX12_wordAt_56 hl20 (by decide) rfl (fun ls hl60 => ?_)
                refine lv_goto (pc := 58) (tgt := 20) E.1 E.2.1 dX12_wordAt_58 (by decide) ?_
                exact ih_18 v_59 _ _ _ ⟨(by show 0 ≤ v_59.toInt; omega), (by show z_a.toInt + v_59.toInt ≤ z_b.toInt; omega), (by show x_7.toInt + 1 + v_59.toInt ≤ 153; omega)⟩ (by omega) hw19 (lv_sub hl60 [1, 0, 2, 3, 4, 5] rfl)
        exact loop_16 (Int.toNat (400 - 0) + 1) 0 _ _ _ ⟨(by show 0 ≤ (0 : Int32).toInt; have k_0 : (0 : Int32).toInt = 0 := (by decide +kernel); omega), (by show z_a.toInt + (0 : Int32).toInt ≤ z_b.toInt; have k_0 : (0 : Int32).toInt = 0 := (by decide +kernel); omega), (by show x_7.toInt + 1 + (0 : Int32).toInt ≤ 153; have k_0 : (0 : Int32).toInt = 0 := (by decide +kernel); omega)⟩ (by have k_0 : (0 : Int32).toInt = 0 := (by decide +kernel); omega) hw10 (lv_sub hl15 [0, 1, 2, 3, 4, 5] rfl)
  exact loop_6 (Int.toNat (153 - 0) + 1) 0 (-1) _ _ _ (by show 0 ≤ (0 : Int32).toInt ∧ (0 : Int32).toInt ≤ 153; have k_0 : (0 : Int32).toInt = 0 := (by decide +kernel); omega) (by have k_0 : (0 : Int32).toInt = 0 := (by decide +kernel); have k_1 : ((-1) : Int32).toInt = -1 := (by decide +kernel); omega) hw1 (lv_sub hl5 [0, 1, 2, 3, 4] rfl)

set_option maxHeartbeats 4000000 in
set_option maxRecDepth 100000 in
theorem s_reads (l : Launch) (D : va_G) (cI cJ : ClassId) (sz M : Nat) (mr : Nat → Nat) (mi : Nat → Int32) (mf : Nat → Nat → Int32) (mg : Nat → Nat → Int64)  (h0 : 0 ≤ (mi 22).toInt) (h1 : (mi 22).toInt ≤ (mi 21).toInt) (h2 : (mi 21).toInt ≤ 400) (h3 : ((mf 26) 153).toInt = 32) : Met l yX12_reads (Cond.code yX12_reads cX12_reads 2 none :: GW) ({ frames := 3, cells := 0, slots := 0, locals := 84 } : Room) (va_Pc [.ref M] (PW D cI cJ sz (MW cI cJ M mr mi mf mg) xT)) (va_Qv (fun (u : Int32 × Int32 × Int32 × Int32) => (0 ≤ u.2.1.toInt) ∧ (u.2.1.toInt ≤ u.1.toInt) ∧ (u.1.toInt ≤ (mi 21).toInt) ∧ (0 ≤ u.2.2.1.toInt) ∧ (u.2.2.1.toInt ≤ 4) ∧ (u.2.2.1.toInt ≤ 4 * u.1.toInt - 4 * u.2.1.toInt) ∧ ((mi 22).toInt ≤ u.2.1.toInt)) (fun u => QW D cI cJ (va_A (MW cI cJ M mr mi mf mg) sz) ((fun (u : Int32 × Int32 × Int32 × Int32) => (MW cI cJ M mr (upd (upd (upd (upd mi 22 u.1) 23 u.2.1) 24 u.2.2.1) 25 u.2.2.2) mf mg)) u)) (va_A (MW cI cJ M mr mi mf mg) sz)) 0 0 (va_A (MW cI cJ M mr mi mf mg) sz) := by
  refine mk_met (y := yX12_reads) (bytes := cX12_reads) (maxL := 2) (avs := [.ref M]) (WS := (MW cI cJ M mr mi mf mg)) (Qf := fun A => va_Qv (fun (u : Int32 × Int32 × Int32 × Int32) => (0 ≤ u.2.1.toInt) ∧ (u.2.1.toInt ≤ u.1.toInt) ∧ (u.1.toInt ≤ (mi 21).toInt) ∧ (0 ≤ u.2.2.1.toInt) ∧ (u.2.2.1.toInt ≤ 4) ∧ (u.2.2.1.toInt ≤ 4 * u.1.toInt - 4 * u.2.1.toInt) ∧ ((mi 22).toInt ≤ u.2.1.toInt)) (fun u => QW D cI cJ A ((fun (u : Int32 × Int32 × Int32 × Int32) => (MW cI cJ M mr (upd (upd (upd (upd mi 22 u.1) 23 u.2.1) 24 u.2.2.1) 25 u.2.2.2) mf mg)) u)) A) (by decide) (Nat.le_of_ble_eq_true rfl) ?_
  intro p e s m below meth c A ls E hr hlk hnm hX hw1 hl2
  have hl3 : lv_has ls 2 [(0, .ref M)] := hl2
  have loop_4 : ∀ (k : Nat) (x_5 : Int32) (H : Heap) (locs : List Loc) (ls : Array Slot), (0 ≤ x_5.toInt) ∧ (x_5.toInt ≤ (mi 21).toInt) ∧ ((mi 22).toInt ≤ x_5.toInt) → (mi 21).toInt - x_5.toInt < (k : Int) → WD D A s.heap (MW cI cJ M mr (upd mi 22 x_5) mf mg) H locs → lv_has ls 2 [(0, .ref M)] → W p l e ({ frames := 3, cells := 0, slots := 0, locals := 84 } : Room) s m ([.ref M] : List Value).toArray below meth c H locs 0 0 (MQ below (va_Qv (fun (u : Int32 × Int32 × Int32 × Int32) => (0 ≤ u.2.1.toInt) ∧ (u.2.1.toInt ≤ u.1.toInt) ∧ (u.1.toInt ≤ (mi 21).toInt) ∧ (0 ≤ u.2.2.1.toInt) ∧ (u.2.2.1.toInt ≤ 4) ∧ (u.2.2.1.toInt ≤ 4 * u.1.toInt - 4 * u.2.1.toInt) ∧ ((mi 22).toInt ≤ u.2.1.toInt)) (fun u => QW D cI cJ A ((fun (u : Int32 × Int32 × Int32 × Int32) => (MW cI cJ M mr (upd (upd (upd (upd mi 22 u.1) 23 u.2.1) 24 u.2.2.1) 25 u.2.2.2) mf mg)) u)) A) ([.ref M] : List Value).toArray s 0 0 A) (F0 m 0 ls []) := by
    intro k
    induction k with
    | zero =>
      intro x_5 _ _ _ hinv hm
      obtain ⟨hi_5_0, hi_5_1, hi_5_2⟩ := hinv
      exact absurd hm (by omega)
    | succ k ih_6 =>
      intro x_5 H locs ls hinv hm hw7 hl8
      obtain ⟨hi_5_0, hi_5_1, hi_5_2⟩ := hinv
      refine lv_aload_n (pc := 0) E.1 E.2.1 dX12_reads_0 rfl (lv_at hl8 0 rfl) ?_
      refine lv_aload_n (pc := 1) E.1 E.2.1 dX12_reads_1 rfl (lv_at hl8 0 rfl) ?_
      refine x_get (pc := 2) (T := TX12) (N := 70) (ci := 12) (v := .int x_5) E hw7 inX12 0 22 q_1421 rfl rfl (by decide) rfl rfl dX12_reads_2 ?_
      refine cm_i (pc := 5) hw7 (rn_M (As := [.int x_5]) (rest := []) E hw7 (s_raw3 l D cI cJ _ M mr (upd mi 22 x_5) mf mg x_5 hi_5_0 (by show 0 ≤ (mi 21).toInt ∧ (mi 21).toInt ≤ 400; omega)) (gdV q_1670 q_1672 q_53 q_162 q_1673) hdV_X12_raw ⟨rfl, rfl⟩ ⟨(Nat.le_of_ble_eq_true rfl), (Nat.le_of_ble_eq_true rfl)⟩ ⟨(Nat.le_of_ble_eq_true rfl), (Nat.le_of_ble_eq_true rfl)⟩ 12 rfl rfl rfl rfl hl8.1 rfl (Nat.le_of_ble_eq_true rfl) dX12_reads_5) (fun r_10 u_9 H1 locs hp hw11 => ?_)
      generalize H1 = H at hw11 ⊢
      have hw12 : WD D A s.heap (MW cI cJ M mr (upd mi 22 x_5) mf mg) H locs := hw11
      obtain ⟨hp_13, hp_14⟩ := hp
      have hp_13 : (x_5).toInt < (mi 21).toInt → r_10 = (mf 20) (x_5).toNatClampNeg := hp_13
      rcases hp_14 with ⟨ha_15, ha_16⟩ | ha_17
      · skip
        have ha_15 : (mi 21).toInt ≤ x_5.toInt := ha_15
        have ha_16 : r_10.toInt = (-1) := ha_16
        refine lv_bipush (pc := 8) (v := 32) E.1 E.2.1 dX12_reads_8 (by decide +kernel) ?_
        refine lv_icmp_eq (pc := 10) (tgt := 26) E.1 E.2.1 dX12_reads_10 (by decide) (fun c_18 => absurd c_18 (mneE (a := r_10.toInt) (b := 32) rfl (by decide +kernel) (by omega))) (fun _ => ?_)
        refine lv_aload_n (pc := 13) E.1 E.2.1 dX12_reads_13 rfl (lv_at hl8 0 rfl) ?_
        refine lv_aload_n (pc := 14) E.1 E.2.1 dX12_reads_14 rfl (lv_at hl8 0 rfl) ?_
        refine x_get (pc := 15) (T := TX12) (N := 70) (ci := 12) (v := .int x_5) E hw12 inX12 0 22 q_1421 rfl rfl (by decide) rfl rfl dX12_reads_15 ?_
        refine cm_i (pc := 18) hw12 (rn_M (As := [.int x_5]) (rest := []) E hw12 (s_raw3 l D cI cJ _ M mr (upd mi 22 x_5) mf mg x_5 hi_5_0 (by show 0 ≤ (mi 21).toInt ∧ (mi 21).toInt ≤ 400; omega)) (gdV q_1670 q_1672 q_53 q_162 q_1673) hdV_X12_raw ⟨rfl, rfl⟩ ⟨(Nat.le_of_ble_eq_true rfl), (Nat.le_of_ble_eq_true rfl)⟩ ⟨(Nat.le_of_ble_eq_true rfl), (Nat.le_of_ble_eq_true rfl)⟩ 12 rfl rfl rfl rfl hl8.1 rfl (Nat.le_of_ble_eq_true rfl) dX12_reads_18) (fun r_20 u_19 H1 locs hp hw21 => ?_)
        generalize H1 = H at hw21 ⊢
        have hw22 : WD D A s.heap (MW cI cJ M mr (upd mi 22 x_5) mf mg) H locs := hw21
        obtain ⟨hp_23, hp_24⟩ := hp
        have hp_23 : (x_5).toInt < (mi 21).toInt → r_20 = (mf 20) (x_5).toNatClampNeg := hp_23
        rcases hp_24 with ⟨ha_25, ha_26⟩ | ha_27
        · skip
          have ha_25 : (mi 21).toInt ≤ x_5.toInt := ha_25
          have ha_26 : r_20.toInt = (-1) := ha_26
          refine lv_bipush (pc := 21) (v := 10) E.1 E.2.1 dX12_reads_21 (by decide +kernel) ?_
          refine lv_icmp_ne (pc := 23) (tgt := 39) E.1 E.2.1 dX12_reads_23 (by decide) (fun _ => ?_) (fun c_28 => absurd c_28 (mneE (a := r_20.toInt) (b := 10) rfl (by decide +kernel) (by omega)))
          refine lv_aload_n (pc := 39) E.1 E.2.1 dX12_reads_39 rfl (lv_at hl8 0 rfl) ?_
          refine lv_aload_n (pc := 40) E.1 E.2.1 dX12_reads_40 rfl (lv_at hl8 0 rfl) ?_
          refine x_get (pc := 41) (T := TX12) (N := 70) (ci := 12) (v := .int x_5) E hw22 inX12 0 22 q_1421 rfl rfl (by decide) rfl rfl dX12_reads_41 ?_
          refine x_put (pc := 44) (T := TX12) (N := 70) (ci := 12) (ws' := (MW cI cJ M mr (upd (upd mi 22 x_5) 23 x_5) mf mg)) E hw22 inX12 tyX12_ok nmX12 0 23 q_1422 rfl rfl (by decide) rfl rfl rfl rfl (Nat.le_of_ble_eq_true rfl) rfl dX12_reads_44 (fun H locs hw29 => ?_)
          refine lv_aload_n (pc := 47) E.1 E.2.1 dX12_reads_47 rfl (lv_at hl8 0 rfl) ?_
          refine lv_iconst (pc := 48) (v := 1) E.1 E.2.1 dX12_reads_48 (by decide +kernel) ?_
          refine x_put (pc := 49) (T := TX12) (N := 70) (ci := 12) (ws' := (MW cI cJ M mr (upd (upd (upd mi 22 x_5) 23 x_5) 24 1) mf mg)) E hw29 inX12 tyX12_ok nmX12 0 24 q_1423 rfl rfl (by decide) rfl rfl rfl rfl (Nat.le_of_ble_eq_true rfl) rfl dX12_reads_49 (fun H locs hw30 => ?_)
          refine lv_aload_n (pc := 52) E.1 E.2.1 dX12_reads_52 rfl (lv_at hl8 0 rfl) ?_
          refine lv_aload_n (pc := 53) E.1 E.2.1 dX12_reads_53 rfl (lv_at hl8 0 rfl) ?_
          refine x_get (pc := 54) (T := TX12) (N := 70) (ci := 12) (v := .int x_5) E hw30 inX12 0 22 q_1421 rfl rfl (by decide) rfl rfl dX12_reads_54 ?_
          refine cm_i (pc := 57) hw30 (rn_M (As := [.int x_5]) (rest := []) E hw30 (s_raw3 l D cI cJ _ M mr (upd (upd (upd mi 22 x_5) 23 x_5) 24 1) mf mg x_5 hi_5_0 (by show 0 ≤ (mi 21).toInt ∧ (mi 21).toInt ≤ 400; omega)) (gdV q_1670 q_1672 q_53 q_162 q_1673) hdV_X12_raw ⟨rfl, rfl⟩ ⟨(Nat.le_of_ble_eq_true rfl), (Nat.le_of_ble_eq_true rfl)⟩ ⟨(Nat.le_of_ble_eq_true rfl), (Nat.le_of_ble_eq_true rfl)⟩ 12 rfl rfl rfl rfl hl8.1 rfl (Nat.le_of_ble_eq_true rfl) dX12_reads_57) (fun r_32 u_31 H1 locs hp hw33 => ?_)
          generalize H1 = H at hw33 ⊢
          have hw34 : WD D A s.heap (MW cI cJ M mr (upd (upd (upd mi 22 x_5) 23 x_5) 24 1) mf mg) H locs := hw33
          obtain ⟨hp_35, hp_36⟩ := hp
          have hp_35 : (x_5).toInt < (mi 21).toInt → r_32 = (mf 20) (x_5).toNatClampNeg := hp_35
          rcases hp_36 with ⟨ha_37, ha_38⟩ | ha_39
          · skip
            have ha_37 : (mi 21).toInt ≤ x_5.toInt := ha_37
            have ha_38 : r_32.toInt = (-1) := ha_38
            refine lv_istore_n (pc := 60) (lv' := [(1, .int r_32), (0, .ref M)]) E.1 E.2.1 dX12_reads_60 rfl hl8 (by decide) rfl (fun ls hl40 => ?_)
            refine lv_iload_n (pc := 61) E.1 E.2.1 dX12_reads_61 rfl (lv_at hl40 0 rfl) ?_
            refine lv_iconst (pc := 62) (v := (-1)) E.1 E.2.1 dX12_reads_62 (by decide +kernel) ?_
            refine lv_icmp_ne (pc := 63) (tgt := 72) E.1 E.2.1 dX12_reads_63 (by decide) (fun c_41 => absurd (meqE (a := r_32.toInt) (b := (-1)) rfl (by decide +kernel) (by omega)) c_41) (fun _ => ?_)
            refine lv_aload_n (pc := 66) E.1 E.2.1 dX12_reads_66 rfl (lv_at hl40 1 rfl) ?_
            refine lv_iconst (pc := 67) (v := 0) E.1 E.2.1 dX12_reads_67 (by decide +kernel) ?_
            refine x_put (pc := 68) (T := TX12) (N := 70) (ci := 12) (ws' := (MW cI cJ M mr (upd (upd (upd mi 22 x_5) 23 x_5) 24 0) mf mg)) E hw34 inX12 tyX12_ok nmX12 0 24 q_1423 rfl rfl (by decide) rfl rfl rfl rfl (Nat.le_of_ble_eq_true rfl) rfl dX12_reads_68 (fun H locs hw42 => ?_)
            exact em_v (w1 := (fun (u : Int32 × Int32 × Int32 × Int32) => (MW cI cJ M mr (upd (upd (upd (upd mi 22 u.1) 23 u.2.1) 24 u.2.2.1) 25 u.2.2.2) mf mg))) E hr hlk (x_5, x_5, 0, (mi 25)) hw42 ⟨hi_5_0, (by show x_5.toInt ≤ x_5.toInt; have k_0 : (0 : Int32).toInt = 0 := (by decide +kernel); omega), hi_5_1, (by show 0 ≤ (0 : Int32).toInt; have k_0 : (0 : Int32).toInt = 0 := (by decide +kernel); omega), (by show (0 : Int32).toInt ≤ 4; have k_0 : (0 : Int32).toInt = 0 := (by decide +kernel); omega), (by show (0 : Int32).toInt ≤ 4 * x_5.toInt - 4 * x_5.toInt; have k_0 : (0 : Int32).toInt = 0 := (by decide +kernel); omega), hi_5_2⟩ (Nat.le_of_ble_eq_true rfl) (Nat.le_of_ble_eq_true rfl) dX12_reads_71
          · skip
            have ha_39 : x_5.toInt ≤ (mi 21).toInt - 1 := ha_39
            exfalso; omega
        · skip
          have ha_27 : x_5.toInt ≤ (mi 21).toInt - 1 := ha_27
          exfalso; omega
      · skip
        have ha_17 : x_5.toInt ≤ (mi 21).toInt - 1 := ha_17
        refine lv_bipush (pc := 8) (v := 32) E.1 E.2.1 dX12_reads_8 (by decide +kernel) ?_
        refine lv_icmp_eq (pc := 10) (tgt := 26) E.1 E.2.1 dX12_reads_10 (by decide) (fun c_43 => ?_) (fun c_43 => ?_)
        · skip
          have hc_43 := eqE (a := r_10.toInt) (b := 32) rfl (by decide +kernel) c_43
          refine lv_aload_n (pc := 26) E.1 E.2.1 dX12_reads_26 rfl (lv_at hl8 0 rfl) ?_
          refine lv_aload_n (pc := 27) E.1 E.2.1 dX12_reads_27 rfl (lv_at hl8 0 rfl) ?_
          refine x_get (pc := 28) (T := TX12) (N := 70) (ci := 12) (v := .int x_5) E hw12 inX12 0 22 q_1421 rfl rfl (by decide) rfl rfl dX12_reads_28 ?_
          refine lv_iconst (pc := 31) (v := 1) E.1 E.2.1 dX12_reads_31 (by decide +kernel) ?_
          refine lv_iadd (pc := 32) E.1 E.2.1 dX12_reads_32 ?_
          refine lv_topi (fun v_44 ev_44 => ?_)
          have hv_44 : v_44.toInt = x_5.toInt + 1 := by rw [ev_44]; exact addE rfl (by decide +kernel) (by omega)
          refine x_put (pc := 33) (T := TX12) (N := 70) (ci := 12) (ws' := (MW cI cJ M mr (upd mi 22 v_44) mf mg)) E hw12 inX12 tyX12_ok nmX12 0 22 q_1421 rfl rfl (by decide) rfl rfl rfl rfl (Nat.le_of_ble_eq_true rfl) rfl dX12_reads_33 (fun H locs hw45 => ?_)
          refine lv_goto (pc := 36) (tgt := 0) E.1 E.2.1 dX12_reads_36 (by decide) ?_
          exact ih_6 v_44 _ _ _ ⟨(by show 0 ≤ v_44.toInt; omega), (by show v_44.toInt ≤ (mi 21).toInt; omega), (by show (mi 22).toInt ≤ v_44.toInt; omega)⟩ (by omega) hw45 (lv_sub hl8 [0] rfl)
        · skip
          have hc_43 := neE (a := r_10.toInt) (b := 32) rfl (by decide +kernel) c_43
          refine lv_aload_n (pc := 13) E.1 E.2.1 dX12_reads_13 rfl (lv_at hl8 0 rfl) ?_
          refine lv_aload_n (pc := 14) E.1 E.2.1 dX12_reads_14 rfl (lv_at hl8 0 rfl) ?_
          refine x_get (pc := 15) (T := TX12) (N := 70) (ci := 12) (v := .int x_5) E hw12 inX12 0 22 q_1421 rfl rfl (by decide) rfl rfl dX12_reads_15 ?_
          refine cm_i (pc := 18) hw12 (rn_M (As := [.int x_5]) (rest := []) E hw12 (s_raw3 l D cI cJ _ M mr (upd mi 22 x_5) mf mg x_5 hi_5_0 (by show 0 ≤ (mi 21).toInt ∧ (mi 21).toInt ≤ 400; omega)) (gdV q_1670 q_1672 q_53 q_162 q_1673) hdV_X12_raw ⟨rfl, rfl⟩ ⟨(Nat.le_of_ble_eq_true rfl), (Nat.le_of_ble_eq_true rfl)⟩ ⟨(Nat.le_of_ble_eq_true rfl), (Nat.le_of_ble_eq_true rfl)⟩ 12 rfl rfl rfl rfl hl8.1 rfl (Nat.le_of_ble_eq_true rfl) dX12_reads_18) (fun r_47 u_46 H1 locs hp hw48 => ?_)
          generalize H1 = H at hw48 ⊢
          have hw49 : WD D A s.heap (MW cI cJ M mr (upd mi 22 x_5) mf mg) H locs := hw48
          obtain ⟨hp_50, hp_51⟩ := hp
          have hp_50 : (x_5).toInt < (mi 21).toInt → r_47 = (mf 20) (x_5).toNatClampNeg := hp_50
          rcases hp_51 with ⟨ha_52, ha_53⟩ | ha_54
          · skip
            have ha_52 : (mi 21).toInt ≤ x_5.toInt := ha_52
            have ha_53 : r_47.toInt = (-1) := ha_53
            exfalso; omega
          · skip
            have ha_54 : x_5.toInt ≤ (mi 21).toInt - 1 := ha_54
            refine lv_bipush (pc := 21) (v := 10) E.1 E.2.1 dX12_reads_21 (by decide +kernel) ?_
            refine lv_icmp_ne (pc := 23) (tgt := 39) E.1 E.2.1 dX12_reads_23 (by decide) (fun c_55 => ?_) (fun c_55 => ?_)
            · skip
              have hc_55 := neE (a := r_47.toInt) (b := 10) rfl (by decide +kernel) c_55
              refine lv_aload_n (pc := 39) E.1 E.2.1 dX12_reads_39 rfl (lv_at hl8 0 rfl) ?_
              refine lv_aload_n (pc := 40) E.1 E.2.1 dX12_reads_40 rfl (lv_at hl8 0 rfl) ?_
              refine x_get (pc := 41) (T := TX12) (N := 70) (ci := 12) (v := .int x_5) E hw49 inX12 0 22 q_1421 rfl rfl (by decide) rfl rfl dX12_reads_41 ?_
              refine x_put (pc := 44) (T := TX12) (N := 70) (ci := 12) (ws' := (MW cI cJ M mr (upd (upd mi 22 x_5) 23 x_5) mf mg)) E hw49 inX12 tyX12_ok nmX12 0 23 q_1422 rfl rfl (by decide) rfl rfl rfl rfl (Nat.le_of_ble_eq_true rfl) rfl dX12_reads_44 (fun H locs hw56 => ?_)
              refine lv_aload_n (pc := 47) E.1 E.2.1 dX12_reads_47 rfl (lv_at hl8 0 rfl) ?_
              refine lv_iconst (pc := 48) (v := 1) E.1 E.2.1 dX12_reads_48 (by decide +kernel) ?_
              refine x_put (pc := 49) (T := TX12) (N := 70) (ci := 12) (ws' := (MW cI cJ M mr (upd (upd (upd mi 22 x_5) 23 x_5) 24 1) mf mg)) E hw56 inX12 tyX12_ok nmX12 0 24 q_1423 rfl rfl (by decide) rfl rfl rfl rfl (Nat.le_of_ble_eq_true rfl) rfl dX12_reads_49 (fun H locs hw57 => ?_)
              refine lv_aload_n (pc := 52) E.1 E.2.1 dX12_reads_52 rfl (lv_at hl8 0 rfl) ?_
              refine lv_aload_n (pc := 53) E.1 E.2.1 dX12_reads_53 rfl (lv_at hl8 0 rfl) ?_
              refine x_get (pc := 54) (T := TX12) (N := 70) (ci := 12) (v := .int x_5) E hw57 inX12 0 22 q_1421 rfl rfl (by decide) rfl rfl dX12_reads_54 ?_
              refine cm_i (pc := 57) hw57 (rn_M (As := [.int x_5]) (rest := []) E hw57 (s_raw3 l D cI cJ _ M mr (upd (upd (upd mi 22 x_5) 23 x_5) 24 1) mf mg x_5 hi_5_0 (by show 0 ≤ (mi 21).toInt ∧ (mi 21).toInt ≤ 400; omega)) (gdV q_1670 q_1672 q_53 q_162 q_1673) hdV_X12_raw ⟨rfl, rfl⟩ ⟨(Nat.le_of_ble_eq_true rfl), (Nat.le_of_ble_eq_true rfl)⟩ ⟨(Nat.le_of_ble_eq_true rfl), (Nat.le_of_ble_eq_true rfl)⟩ 12 rfl rfl rfl rfl hl8.1 rfl (Nat.le_of_ble_eq_true rfl) dX12_reads_57) (fun r_59 u_58 H1 locs hp hw60 => ?_)
              generalize H1 = H at hw60 ⊢
              have hw61 : WD D A s.heap (MW cI cJ M mr (upd (upd (upd mi 22 x_5) 23 x_5) 24 1) mf mg) H locs := hw60
              obtain ⟨hp_62, hp_63⟩ := hp
              have hp_62 : (x_5).toInt < (mi 21).toInt → r_59 = (mf 20) (x_5).toNatClampNeg := hp_62
              rcases hp_63 with ⟨ha_64, ha_65⟩ | ha_66
              · skip
                have ha_64 : (mi 21).toInt ≤ x_5.toInt := ha_64
                have ha_65 : r_59.toInt = (-1) := ha_65
                exfalso; omega
              · skip
                have ha_66 : x_5.toInt ≤ (mi 21).toInt - 1 := ha_66
                refine lv_istore_n (pc := 60) (lv' := [(1, .int r_59), (0, .ref M)]) E.1 E.2.1 dX12_reads_60 rfl hl8 (by decide) rfl (fun ls hl67 => ?_)
                refine lv_iload_n (pc := 61) E.1 E.2.1 dX12_reads_61 rfl (lv_at hl67 0 rfl) ?_
                refine lv_iconst (pc := 62) (v := (-1)) E.1 E.2.1 dX12_reads_62 (by decide +kernel) ?_
                refine lv_icmp_ne (pc := 63) (tgt := 72) E.1 E.2.1 dX12_reads_63 (by decide) (fun c_68 => ?_) (fun c_68 => ?_)
                · skip
                  have hc_68 := neE (a := r_59.toInt) (b := (-1)) rfl (by decide +kernel) c_68
                  refine lv_aload_n (pc := 72) E.1 E.2.1 dX12_reads_72 rfl (lv_at hl67 1 rfl) ?_
                  refine lv_aload_n (pc := 73) E.1 E.2.1 dX12_reads_73 rfl (lv_at hl67 1 rfl) ?_
                  refine x_get (pc := 74) (T := TX12) (N := 70) (ci := 12) (v := .int x_5) E hw61 inX12 0 22 q_1421 rfl rfl (by decide) rfl rfl dX12_reads_74 ?_
                  refine lv_iconst (pc := 77) (v := 1) E.1 E.2.1 dX12_reads_77 (by decide +kernel) ?_
                  refine lv_iadd (pc := 78) E.1 E.2.1 dX12_reads_78 ?_
                  refine lv_topi (fun v_69 ev_69 => ?_)
                  have hv_69 : v_69.toInt = x_5.toInt + 1 := by rw [ev_69]; exact addE rfl (by decide +kernel) (by omega)
                  refine x_put (pc := 79) (T := TX12) (N := 70) (ci := 12) (ws' := (MW cI cJ M mr (upd (upd (upd mi 22 v_69) 23 x_5) 24 1) mf mg)) E hw61 inX12 tyX12_ok nmX12 0 22 q_1421 rfl rfl (by decide) rfl rfl rfl rfl (Nat.le_of_ble_eq_true rfl) rfl dX12_reads_79 (fun H locs hw70 => ?_)
                  refine lv_aload_n (pc := 82) E.1 E.2.1 dX12_reads_82 rfl (lv_at hl67 1 rfl) ?_
                  refine lv_iload_n (pc := 83) E.1 E.2.1 dX12_reads_83 rfl (lv_at hl67 0 rfl) ?_
                  refine x_put (pc := 84) (T := TX12) (N := 70) (ci := 12) (ws' := (MW cI cJ M mr (upd (upd (upd (upd mi 22 v_69) 23 x_5) 24 1) 25 r_59) mf mg)) E hw70 inX12 tyX12_ok nmX12 0 25 q_1424 rfl rfl (by decide) rfl rfl rfl rfl (Nat.le_of_ble_eq_true rfl) rfl dX12_reads_84 (fun H locs hw71 => ?_)
                  refine lv_aload_n (pc := 87) E.1 E.2.1 dX12_reads_87 rfl (lv_at hl67 1 rfl) ?_
                  refine lv_iload_n (pc := 88) E.1 E.2.1 dX12_reads_88 rfl (lv_at hl67 0 rfl) ?_
                  refine cm_i (pc := 89) hw71 (rn_M (As := [.int r_59]) (rest := []) E hw71 (s_isLetter2 l D cI cJ _ M mr (upd (upd (upd (upd mi 22 v_69) 23 x_5) 24 1) 25 r_59) mf mg r_59) (gdV q_1674 q_1676 q_54 q_162 q_1677) hdV_X12_isLetter ⟨rfl, rfl⟩ ⟨(Nat.le_of_ble_eq_true rfl), (Nat.le_of_ble_eq_true rfl)⟩ ⟨(Nat.le_of_ble_eq_true rfl), (Nat.le_of_ble_eq_true rfl)⟩ 12 rfl rfl rfl rfl hl67.1 rfl (Nat.le_of_ble_eq_true rfl) dX12_reads_89) (fun r_73 u_72 H1 locs hp hw74 => ?_)
                  generalize H1 = H at hw74 ⊢
                  have hw75 : WD D A s.heap (MW cI cJ M mr (upd (upd (upd (upd mi 22 v_69) 23 x_5) 24 1) 25 r_59) mf mg) H locs := hw74
                  have hp_76 := hp
                  rcases hp_76 with ⟨rfl, ha_77, ha_78⟩ | rfl
                  · skip
                    have ha_77 : 65 ≤ r_59.toInt := ha_77
                    have ha_78 : r_59.toInt ≤ 122 := ha_78
                    refine lv_if_eq (pc := 92) (tgt := 155) E.1 E.2.1 dX12_reads_92 (by decide) (fun c_79 => absurd c_79 (mneE (a := 1) (b := 0) (by decide +kernel) (by decide +kernel) (by omega))) (fun _ => ?_)
                    have loop_80 : ∀ (k : Nat) (x_81 : Int32) (H : Heap) (locs : List Loc) (ls : Array Slot), (x_5.toInt + 1 ≤ x_81.toInt) ∧ (x_81.toInt ≤ (mi 21).toInt) ∧ (LT (mf 20) x_5.toInt x_81.toInt) → (mi 21).toInt - x_81.toInt < (k : Int) → WD D A s.heap (MW cI cJ M mr (upd (upd (upd (upd mi 22 x_81) 23 x_5) 24 1) 25 r_59) mf mg) H locs → lv_has ls 2 [(1, .int r_59), (0, .ref M)] → W p l e ({ frames := 3, cells := 0, slots := 0, locals := 84 } : Room) s m ([.ref M] : List Value).toArray below meth c H locs 0 0 (MQ below (va_Qv (fun (u : Int32 × Int32 × Int32 × Int32) => (0 ≤ u.2.1.toInt) ∧ (u.2.1.toInt ≤ u.1.toInt) ∧ (u.1.toInt ≤ (mi 21).toInt) ∧ (0 ≤ u.2.2.1.toInt) ∧ (u.2.2.1.toInt ≤ 4) ∧ (u.2.2.1.toInt ≤ 4 * u.1.toInt - 4 * u.2.1.toInt) ∧ ((mi 22).toInt ≤ u.2.1.toInt)) (fun u => QW D cI cJ A ((fun (u : Int32 × Int32 × Int32 × Int32) => (MW cI cJ M mr (upd (upd (upd (upd mi 22 u.1) 23 u.2.1) 24 u.2.2.1) 25 u.2.2.2) mf mg)) u)) A) ([.ref M] : List Value).toArray s 0 0 A) (F0 m 95 ls []) := by
                      intro k
                      induction k with
                      | zero =>
                        intro x_81 _ _ _ hinv hm
                        obtain ⟨hi_81_0, hi_81_1, hi_81_2⟩ := hinv
                        exact absurd hm (by omega)
                      | succ k ih_82 =>
                        intro x_81 H locs ls hinv hm hw83 hl84
                        obtain ⟨hi_81_0, hi_81_1, hi_81_2⟩ := hinv
                        refine lv_aload_n (pc := 95) E.1 E.2.1 dX12_reads_95 rfl (lv_at hl84 1 rfl) ?_
                        refine lv_aload_n (pc := 96) E.1 E.2.1 dX12_reads_96 rfl (lv_at hl84 1 rfl) ?_
                        refine lv_aload_n (pc := 97) E.1 E.2.1 dX12_reads_97 rfl (lv_at hl84 1 rfl) ?_
                        refine x_get (pc := 98) (T := TX12) (N := 70) (ci := 12) (v := .int x_81) E hw83 inX12 0 22 q_1421 rfl rfl (by decide) rfl rfl dX12_reads_98 ?_
                        refine cm_i (pc := 101) hw83 (rn_M (As := [.int x_81]) (rest := [.ref M]) E hw83 (s_raw3 l D cI cJ _ M mr (upd (upd (upd (upd mi 22 x_81) 23 x_5) 24 1) 25 r_59) mf mg x_81 (by show 0 ≤ x_81.toInt; omega) (by show 0 ≤ (mi 21).toInt ∧ (mi 21).toInt ≤ 400; omega)) (gdV q_1670 q_1672 q_53 q_162 q_1673) hdV_X12_raw ⟨rfl, rfl⟩ ⟨(Nat.le_of_ble_eq_true rfl), (Nat.le_of_ble_eq_true rfl)⟩ ⟨(Nat.le_of_ble_eq_true rfl), (Nat.le_of_ble_eq_true rfl)⟩ 12 rfl rfl rfl rfl hl84.1 rfl (Nat.le_of_ble_eq_true rfl) dX12_reads_101) (fun r_86 u_85 H1 locs hp hw87 => ?_)
                        generalize H1 = H at hw87 ⊢
                        have hw88 : WD D A s.heap (MW cI cJ M mr (upd (upd (upd (upd mi 22 x_81) 23 x_5) 24 1) 25 r_59) mf mg) H locs := hw87
                        obtain ⟨hp_89, hp_90⟩ := hp
                        have hp_89 : (x_81).toInt < (mi 21).toInt → r_86 = (mf 20) (x_81).toNatClampNeg := hp_89
                        rcases hp_90 with ⟨ha_91, ha_92⟩ | ha_93
                        · skip
                          have ha_91 : (mi 21).toInt ≤ x_81.toInt := ha_91
                          have ha_92 : r_86.toInt = (-1) := ha_92
                          refine cm_i (pc := 104) hw88 (rn_M (As := [.int r_86]) (rest := []) E hw88 (s_isLetter2 l D cI cJ _ M mr (upd (upd (upd (upd mi 22 x_81) 23 x_5) 24 1) 25 r_59) mf mg r_86) (gdV q_1674 q_1676 q_54 q_162 q_1677) hdV_X12_isLetter ⟨rfl, rfl⟩ ⟨(Nat.le_of_ble_eq_true rfl), (Nat.le_of_ble_eq_true rfl)⟩ ⟨(Nat.le_of_ble_eq_true rfl), (Nat.le_of_ble_eq_true rfl)⟩ 12 rfl rfl rfl rfl hl84.1 rfl (Nat.le_of_ble_eq_true rfl) dX12_reads_104) (fun r_95 u_94 H1 locs hp hw96 => ?_)
                          generalize H1 = H at hw96 ⊢
                          have hw97 : WD D A s.heap (MW cI cJ M mr (upd (upd (upd (upd mi 22 x_81) 23 x_5) 24 1) 25 r_59) mf mg) H locs := hw96
                          have hp_98 := hp
                          rcases hp_98 with ⟨rfl, ha_99, ha_100⟩ | rfl
                          · skip
                            have ha_99 : 65 ≤ r_86.toInt := ha_99
                            have ha_100 : r_86.toInt ≤ 122 := ha_100
                            exfalso; omega
                          · skip
                            refine lv_if_eq (pc := 107) (tgt := 123) E.1 E.2.1 dX12_reads_107 (by decide) (fun _ => ?_) (fun c_101 => absurd (meqE (a := 0) (b := 0) (by decide +kernel) (by decide +kernel) (by omega)) c_101)
                            refine lv_aload_n (pc := 123) E.1 E.2.1 dX12_reads_123 rfl (lv_at hl84 1 rfl) ?_
                            refine lv_aload_n (pc := 124) E.1 E.2.1 dX12_reads_124 rfl (lv_at hl84 1 rfl) ?_
                            refine lv_aload_n (pc := 125) E.1 E.2.1 dX12_reads_125 rfl (lv_at hl84 1 rfl) ?_
                            refine x_get (pc := 126) (T := TX12) (N := 70) (ci := 12) (v := .int x_5) E hw97 inX12 0 23 q_1422 rfl rfl (by decide) rfl rfl dX12_reads_126 ?_
                            refine lv_aload_n (pc := 129) E.1 E.2.1 dX12_reads_129 rfl (lv_at hl84 1 rfl) ?_
                            refine x_get (pc := 130) (T := TX12) (N := 70) (ci := 12) (v := .int x_81) E hw97 inX12 0 22 q_1421 rfl rfl (by decide) rfl rfl dX12_reads_130 ?_
                            refine cm_i (pc := 133) hw97 (rn_M (As := [.int x_5, .int x_81]) (rest := [.ref M]) E hw97 (s_wordAt l D cI cJ _ M mr (upd (upd (upd (upd mi 22 x_81) 23 x_5) 24 1) 25 r_59) mf mg x_5 x_81 hi_5_0 (by show x_5.toInt ≤ x_81.toInt; omega) (by show x_81.toInt ≤ 400; omega) h3 (show LT (mf 20) (x_5).toInt (x_81).toInt from hi_81_2)) (gdV q_1678 q_1680 q_55 q_162 q_1681) hdV_X12_wordAt ⟨rfl, rfl⟩ ⟨(Nat.le_of_ble_eq_true rfl), (Nat.le_of_ble_eq_true rfl)⟩ ⟨(Nat.le_of_ble_eq_true rfl), (Nat.le_of_ble_eq_true rfl)⟩ 12 rfl rfl rfl rfl hl84.1 rfl (Nat.le_of_ble_eq_true rfl) dX12_reads_133) (fun r_103 u_102 H1 locs hp hw104 => ?_)
                            generalize H1 = H at hw104 ⊢
                            have hw105 : WD D A s.heap (MW cI cJ M mr (upd (upd (upd (upd mi 22 x_81) 23 x_5) 24 1) 25 r_59) mf mg) H locs := hw104
                            refine x_put (pc := 136) (T := TX12) (N := 70) (ci := 12) (ws' := (MW cI cJ M mr (upd (upd (upd (upd mi 22 x_81) 23 x_5) 24 1) 25 r_103) mf mg)) E hw105 inX12 tyX12_ok nmX12 0 25 q_1424 rfl rfl (by decide) rfl rfl rfl rfl (Nat.le_of_ble_eq_true rfl) rfl dX12_reads_136 (fun H locs hw106 => ?_)
                            refine lv_aload_n (pc := 139) E.1 E.2.1 dX12_reads_139 rfl (lv_at hl84 1 rfl) ?_
                            refine x_get (pc := 140) (T := TX12) (N := 70) (ci := 12) (v := .int r_103) E hw106 inX12 0 25 q_1424 rfl rfl (by decide) rfl rfl dX12_reads_140 ?_
                            refine lv_iconst (pc := 143) (v := (-1)) E.1 E.2.1 dX12_reads_143 (by decide +kernel) ?_
                            refine lv_icmp_eq (pc := 144) (tgt := 273) E.1 E.2.1 dX12_reads_144 (by decide) (fun c_107 => ?_) (fun c_107 => ?_)
                            · skip
                              have hc_107 := eqE (a := r_103.toInt) (b := (-1)) rfl (by decide +kernel) c_107
                              exact em_v (w1 := (fun (u : Int32 × Int32 × Int32 × Int32) => (MW cI cJ M mr (upd (upd (upd (upd mi 22 u.1) 23 u.2.1) 24 u.2.2.1) 25 u.2.2.2) mf mg))) E hr hlk (x_81, x_5, 1, r_103) hw106 ⟨hi_5_0, (by show x_5.toInt ≤ x_81.toInt; have k_0 : (1 : Int32).toInt = 1 := (by decide +kernel); omega), hi_81_1, (by show 0 ≤ (1 : Int32).toInt; have k_0 : (1 : Int32).toInt = 1 := (by decide +kernel); omega), (by show (1 : Int32).toInt ≤ 4; have k_0 : (1 : Int32).toInt = 1 := (by decide +kernel); omega), (by show (1 : Int32).toInt ≤ 4 * x_81.toInt - 4 * x_5.toInt; have k_0 : (1 : Int32).toInt = 1 := (by decide +kernel); omega), hi_5_2⟩ (Nat.le_of_ble_eq_true rfl) (Nat.le_of_ble_eq_true rfl) dX12_reads_273
                            · skip
                              have hc_107 := neE (a := r_103.toInt) (b := (-1)) rfl (by decide +kernel) c_107
                              refine lv_aload_n (pc := 147) E.1 E.2.1 dX12_reads_147 rfl (lv_at hl84 1 rfl) ?_
                              refine lv_iconst (pc := 148) (v := 2) E.1 E.2.1 dX12_reads_148 (by decide +kernel) ?_
                              refine x_put (pc := 149) (T := TX12) (N := 70) (ci := 12) (ws' := (MW cI cJ M mr (upd (upd (upd (upd mi 22 x_81) 23 x_5) 24 2) 25 r_103) mf mg)) E hw106 inX12 tyX12_ok nmX12 0 24 q_1423 rfl rfl (by decide) rfl rfl rfl rfl (Nat.le_of_ble_eq_true rfl) rfl dX12_reads_149 (fun H locs hw108 => ?_)
                              refine lv_goto (pc := 152) (tgt := 273) E.1 E.2.1 dX12_reads_152 (by decide) ?_
                              exact em_v (w1 := (fun (u : Int32 × Int32 × Int32 × Int32) => (MW cI cJ M mr (upd (upd (upd (upd mi 22 u.1) 23 u.2.1) 24 u.2.2.1) 25 u.2.2.2) mf mg))) E hr hlk (x_81, x_5, 2, r_103) hw108 ⟨hi_5_0, (by show x_5.toInt ≤ x_81.toInt; have k_0 : (2 : Int32).toInt = 2 := (by decide +kernel); omega), hi_81_1, (by show 0 ≤ (2 : Int32).toInt; have k_0 : (2 : Int32).toInt = 2 := (by decide +kernel); omega), (by show (2 : Int32).toInt ≤ 4; have k_0 : (2 : Int32).toInt = 2 := (by decide +kernel); omega), (by show (2 : Int32).toInt ≤ 4 * x_81.toInt - 4 * x_5.toInt; have k_0 : (2 : Int32).toInt = 2 := (by decide +kernel); omega), hi_5_2⟩ (Nat.le_of_ble_eq_true rfl) (Nat.le_of_ble_eq_true rfl) dX12_reads_273
                        · skip
                          have ha_93 : x_81.toInt ≤ (mi 21).toInt - 1 := ha_93
                          refine cm_i (pc := 104) hw88 (rn_M (As := [.int r_86]) (rest := []) E hw88 (s_isLetter2 l D cI cJ _ M mr (upd (upd (upd (upd mi 22 x_81) 23 x_5) 24 1) 25 r_59) mf mg r_86) (gdV q_1674 q_1676 q_54 q_162 q_1677) hdV_X12_isLetter ⟨rfl, rfl⟩ ⟨(Nat.le_of_ble_eq_true rfl), (Nat.le_of_ble_eq_true rfl)⟩ ⟨(Nat.le_of_ble_eq_true rfl), (Nat.le_of_ble_eq_true rfl)⟩ 12 rfl rfl rfl rfl hl84.1 rfl (Nat.le_of_ble_eq_true rfl) dX12_reads_104) (fun r_110 u_109 H1 locs hp hw111 => ?_)
                          generalize H1 = H at hw111 ⊢
                          have hw112 : WD D A s.heap (MW cI cJ M mr (upd (upd (upd (upd mi 22 x_81) 23 x_5) 24 1) 25 r_59) mf mg) H locs := hw111
                          have hp_113 := hp
                          rcases hp_113 with ⟨rfl, ha_114, ha_115⟩ | rfl
                          · skip
                            have ha_114 : 65 ≤ r_86.toInt := ha_114
                            have ha_115 : r_86.toInt ≤ 122 := ha_115
                            refine lv_if_eq (pc := 107) (tgt := 123) E.1 E.2.1 dX12_reads_107 (by decide) (fun c_116 => absurd c_116 (mneE (a := 1) (b := 0) (by decide +kernel) (by decide +kernel) (by omega))) (fun _ => ?_)
                            refine lv_aload_n (pc := 110) E.1 E.2.1 dX12_reads_110 rfl (lv_at hl84 1 rfl) ?_
                            refine lv_aload_n (pc := 111) E.1 E.2.1 dX12_reads_111 rfl (lv_at hl84 1 rfl) ?_
                            refine x_get (pc := 112) (T := TX12) (N := 70) (ci := 12) (v := .int x_81) E hw112 inX12 0 22 q_1421 rfl rfl (by decide) rfl rfl dX12_reads_112 ?_
                            refine lv_iconst (pc := 115) (v := 1) E.1 E.2.1 dX12_reads_115 (by decide +kernel) ?_
                            refine lv_iadd (pc := 116) E.1 E.2.1 dX12_reads_116 ?_
                            refine lv_topi (fun v_117 ev_117 => ?_)
                            have hv_117 : v_117.toInt = x_81.toInt + 1 := by rw [ev_117]; exact addE rfl (by decide +kernel) (by omega)
                            refine x_put (pc := 117) (T := TX12) (N := 70) (ci := 12) (ws' := (MW cI cJ M mr (upd (upd (upd (upd mi 22 v_117) 23 x_5) 24 1) 25 r_59) mf mg)) E hw112 inX12 tyX12_ok nmX12 0 22 q_1421 rfl rfl (by decide) rfl rfl rfl rfl (Nat.le_of_ble_eq_true rfl) rfl dX12_reads_117 (fun H locs hw118 => ?_)
                            refine lv_goto (pc := 120) (tgt := 95) E.1 E.2.1 dX12_reads_120 (by decide) ?_
                            exact ih_82 v_117 _ _ _ ⟨(by show x_5.toInt + 1 ≤ v_117.toInt; omega), (by show v_117.toInt ≤ (mi 21).toInt; omega), (LT_step (i := x_81) (v := r_86) hi_81_2 (hp_89 (by omega)) (by omega) (by omega) (by omega) (by omega))⟩ (by omega) hw118 (lv_sub hl84 [0, 1] rfl)
                          · skip
                            refine lv_if_eq (pc := 107) (tgt := 123) E.1 E.2.1 dX12_reads_107 (by decide) (fun _ => ?_) (fun c_119 => absurd (meqE (a := 0) (b := 0) (by decide +kernel) (by decide +kernel) (by omega)) c_119)
                            refine lv_aload_n (pc := 123) E.1 E.2.1 dX12_reads_123 rfl (lv_at hl84 1 rfl) ?_
                            refine lv_aload_n (pc := 124) E.1 E.2.1 dX12_reads_124 rfl (lv_at hl84 1 rfl) ?_
                            refine lv_aload_n (pc := 125) E.1 E.2.1 dX12_reads_125 rfl (lv_at hl84 1 rfl) ?_
                            refine x_get (pc := 126) (T := TX12) (N := 70) (ci := 12) (v := .int x_5) E hw112 inX12 0 23 q_1422 rfl rfl (by decide) rfl rfl dX12_reads_126 ?_
                            refine lv_aload_n (pc := 129) E.1 E.2.1 dX12_reads_129 rfl (lv_at hl84 1 rfl) ?_
                            refine x_get (pc := 130) (T := TX12) (N := 70) (ci := 12) (v := .int x_81) E hw112 inX12 0 22 q_1421 rfl rfl (by decide) rfl rfl dX12_reads_130 ?_
                            refine cm_i (pc := 133) hw112 (rn_M (As := [.int x_5, .int x_81]) (rest := [.ref M]) E hw112 (s_wordAt l D cI cJ _ M mr (upd (upd (upd (upd mi 22 x_81) 23 x_5) 24 1) 25 r_59) mf mg x_5 x_81 hi_5_0 (by show x_5.toInt ≤ x_81.toInt; omega) (by show x_81.toInt ≤ 400; omega) h3 (show LT (mf 20) (x_5).toInt (x_81).toInt from hi_81_2)) (gdV q_1678 q_1680 q_55 q_162 q_1681) hdV_X12_wordAt ⟨rfl, rfl⟩ ⟨(Nat.le_of_ble_eq_true rfl), (Nat.le_of_ble_eq_true rfl)⟩ ⟨(Nat.le_of_ble_eq_true rfl), (Nat.le_of_ble_eq_true rfl)⟩ 12 rfl rfl rfl rfl hl84.1 rfl (Nat.le_of_ble_eq_true rfl) dX12_reads_133) (fun r_121 u_120 H1 locs hp hw122 => ?_)
                            generalize H1 = H at hw122 ⊢
                            have hw123 : WD D A s.heap (MW cI cJ M mr (upd (upd (upd (upd mi 22 x_81) 23 x_5) 24 1) 25 r_59) mf mg) H locs := hw122
                            refine x_put (pc := 136) (T := TX12) (N := 70) (ci := 12) (ws' := (MW cI cJ M mr (upd (upd (upd (upd mi 22 x_81) 23 x_5) 24 1) 25 r_121) mf mg)) E hw123 inX12 tyX12_ok nmX12 0 25 q_1424 rfl rfl (by decide) rfl rfl rfl rfl (Nat.le_of_ble_eq_true rfl) rfl dX12_reads_136 (fun H locs hw124 => ?_)
                            refine lv_aload_n (pc := 139) E.1 E.2.1 dX12_reads_139 rfl (lv_at hl84 1 rfl) ?_
                            refine x_get (pc := 140) (T := TX12) (N := 70) (ci := 12) (v := .int r_121) E hw124 inX12 0 25 q_1424 rfl rfl (by decide) rfl rfl dX12_reads_140 ?_
                            refine lv_iconst (pc := 143) (v := (-1)) E.1 E.2.1 dX12_reads_143 (by decide +kernel) ?_
                            refine lv_icmp_eq (pc := 144) (tgt := 273) E.1 E.2.1 dX12_reads_144 (by decide) (fun c_125 => ?_) (fun c_125 => ?_)
                            · skip
                              have hc_125 := eqE (a := r_121.toInt) (b := (-1)) rfl (by decide +kernel) c_125
                              exact em_v (w1 := (fun (u : Int32 × Int32 × Int32 × Int32) => (MW cI cJ M mr (upd (upd (upd (upd mi 22 u.1) 23 u.2.1) 24 u.2.2.1) 25 u.2.2.2) mf mg))) E hr hlk (x_81, x_5, 1, r_121) hw124 ⟨hi_5_0, (by show x_5.toInt ≤ x_81.toInt; have k_0 : (1 : Int32).toInt = 1 := (by decide +kernel); omega), hi_81_1, (by show 0 ≤ (1 : Int32).toInt; have k_0 : (1 : Int32).toInt = 1 := (by decide +kernel); omega), (by show (1 : Int32).toInt ≤ 4; have k_0 : (1 : Int32).toInt = 1 := (by decide +kernel); omega), (by show (1 : Int32).toInt ≤ 4 * x_81.toInt - 4 * x_5.toInt; have k_0 : (1 : Int32).toInt = 1 := (by decide +kernel); omega), hi_5_2⟩ (Nat.le_of_ble_eq_true rfl) (Nat.le_of_ble_eq_true rfl) dX12_reads_273
                            · skip
                              have hc_125 := neE (a := r_121.toInt) (b := (-1)) rfl (by decide +kernel) c_125
                              refine lv_aload_n (pc := 147) E.1 E.2.1 dX12_reads_147 rfl (lv_at hl84 1 rfl) ?_
                              refine lv_iconst (pc := 148) (v := 2) E.1 E.2.1 dX12_reads_148 (by decide +kernel) ?_
                              refine x_put (pc := 149) (T := TX12) (N := 70) (ci := 12) (ws' := (MW cI cJ M mr (upd (upd (upd (upd mi 22 x_81) 23 x_5) 24 2) 25 r_121) mf mg)) E hw124 inX12 tyX12_ok nmX12 0 24 q_1423 rfl rfl (by decide) rfl rfl rfl rfl (Nat.le_of_ble_eq_true rfl) rfl dX12_reads_149 (fun H locs hw126 => ?_)
                              refine lv_goto (pc := 152) (tgt := 273) E.1 E.2.1 dX12_reads_152 (by decide) ?_
                              exact em_v (w1 := (fun (u : Int32 × Int32 × Int32 × Int32) => (MW cI cJ M mr (upd (upd (upd (upd mi 22 u.1) 23 u.2.1) 24 u.2.2.1) 25 u.2.2.2) mf mg))) E hr hlk (x_81, x_5, 2, r_121) hw126 ⟨hi_5_0, (by show x_5.toInt ≤ x_81.toInt; have k_0 : (2 : Int32).toInt = 2 := (by decide +kernel); omega), hi_81_1, (by show 0 ≤ (2 : Int32).toInt; have k_0 : (2 : Int32).toInt = 2 := (by decide +kernel); omega), (by show (2 : Int32).toInt ≤ 4; have k_0 : (2 : Int32).toInt = 2 := (by decide +kernel); omega), (by show (2 : Int32).toInt ≤ 4 * x_81.toInt - 4 * x_5.toInt; have k_0 : (2 : Int32).toInt = 2 := (by decide +kernel); omega), hi_5_2⟩ (Nat.le_of_ble_eq_true rfl) (Nat.le_of_ble_eq_true rfl) dX12_reads_273
                    exact loop_80 (Int.toNat ((mi 21).toInt - v_69.toInt) + 1) v_69 _ _ _ ⟨(by show x_5.toInt + 1 ≤ v_69.toInt; omega), (by show v_69.toInt ≤ (mi 21).toInt; omega), (LT_one (i := x_5) (v := r_59) (hp_62 (by omega)) (by omega) (by omega) (by omega) (by omega))⟩ (by omega) hw75 (lv_sub hl67 [0, 1] rfl)
                  · skip
                    refine lv_if_eq (pc := 92) (tgt := 155) E.1 E.2.1 dX12_reads_92 (by decide) (fun _ => ?_) (fun c_127 => absurd (meqE (a := 0) (b := 0) (by decide +kernel) (by decide +kernel) (by omega)) c_127)
                    refine lv_aload_n (pc := 155) E.1 E.2.1 dX12_reads_155 rfl (lv_at hl67 1 rfl) ?_
                    refine lv_iload_n (pc := 156) E.1 E.2.1 dX12_reads_156 rfl (lv_at hl67 0 rfl) ?_
                    refine cm_i (pc := 157) hw75 (rn_M (As := [.int r_59]) (rest := []) E hw75 (s_isDigit2 l D cI cJ _ M mr (upd (upd (upd (upd mi 22 v_69) 23 x_5) 24 1) 25 r_59) mf mg r_59) (gdV q_1682 q_1684 q_56 q_162 q_1685) hdV_X12_isDigit ⟨rfl, rfl⟩ ⟨(Nat.le_of_ble_eq_true rfl), (Nat.le_of_ble_eq_true rfl)⟩ ⟨(Nat.le_of_ble_eq_true rfl), (Nat.le_of_ble_eq_true rfl)⟩ 12 rfl rfl rfl rfl hl67.1 rfl (Nat.le_of_ble_eq_true rfl) dX12_reads_157) (fun r_129 u_128 H1 locs hp hw130 => ?_)
                    generalize H1 = H at hw130 ⊢
                    have hw131 : WD D A s.heap (MW cI cJ M mr (upd (upd (upd (upd mi 22 v_69) 23 x_5) 24 1) 25 r_59) mf mg) H locs := hw130
                    have hp_132 := hp
                    rcases hp_132 with ⟨rfl, ha_133, ha_134⟩ | rfl
                    · skip
                      have ha_133 : 48 ≤ r_59.toInt := ha_133
                      have ha_134 : r_59.toInt ≤ 57 := ha_134
                      refine lv_if_eq (pc := 160) (tgt := 260) E.1 E.2.1 dX12_reads_160 (by decide) (fun c_135 => absurd c_135 (mneE (a := 1) (b := 0) (by decide +kernel) (by decide +kernel) (by omega))) (fun _ => ?_)
                      refine lv_aload_n (pc := 163) E.1 E.2.1 dX12_reads_163 rfl (lv_at hl67 1 rfl) ?_
                      refine lv_iload_n (pc := 164) E.1 E.2.1 dX12_reads_164 rfl (lv_at hl67 0 rfl) ?_
                      refine lv_bipush (pc := 165) (v := 48) E.1 E.2.1 dX12_reads_165 (by decide +kernel) ?_
                      refine lv_isub (pc := 167) E.1 E.2.1 dX12_reads_167 ?_
                      refine lv_topi (fun v_136 ev_136 => ?_)
                      have hv_136 : v_136.toInt = r_59.toInt - 48 := by rw [ev_136]; exact subE rfl (by decide +kernel) (by omega)
                      refine x_put (pc := 168) (T := TX12) (N := 70) (ci := 12) (ws' := (MW cI cJ M mr (upd (upd (upd (upd mi 22 v_69) 23 x_5) 24 1) 25 v_136) mf mg)) E hw131 inX12 tyX12_ok nmX12 0 25 q_1424 rfl rfl (by decide) rfl rfl rfl rfl (Nat.le_of_ble_eq_true rfl) rfl dX12_reads_168 (fun H locs hw137 => ?_)
                      have loop_138 : ∀ (k : Nat) (x_139 : Int32) (x_140 : Int32) (H : Heap) (locs : List Loc) (ls : Array Slot), (x_5.toInt + 1 ≤ x_139.toInt) ∧ (x_139.toInt ≤ (mi 21).toInt) → (mi 21).toInt - x_139.toInt < (k : Int) → WD D A s.heap (MW cI cJ M mr (upd (upd (upd (upd mi 22 x_139) 23 x_5) 24 1) 25 x_140) mf mg) H locs → lv_has ls 2 [(1, .int r_59), (0, .ref M)] → W p l e ({ frames := 3, cells := 0, slots := 0, locals := 84 } : Room) s m ([.ref M] : List Value).toArray below meth c H locs 0 0 (MQ below (va_Qv (fun (u : Int32 × Int32 × Int32 × Int32) => (0 ≤ u.2.1.toInt) ∧ (u.2.1.toInt ≤ u.1.toInt) ∧ (u.1.toInt ≤ (mi 21).toInt) ∧ (0 ≤ u.2.2.1.toInt) ∧ (u.2.2.1.toInt ≤ 4) ∧ (u.2.2.1.toInt ≤ 4 * u.1.toInt - 4 * u.2.1.toInt) ∧ ((mi 22).toInt ≤ u.2.1.toInt)) (fun u => QW D cI cJ A ((fun (u : Int32 × Int32 × Int32 × Int32) => (MW cI cJ M mr (upd (upd (upd (upd mi 22 u.1) 23 u.2.1) 24 u.2.2.1) 25 u.2.2.2) mf mg)) u)) A) ([.ref M] : List Value).toArray s 0 0 A) (F0 m 171 ls []) := by
                        intro k
                        induction k with
                        | zero =>
                          intro x_139 x_140 _ _ _ hinv hm
                          obtain ⟨hi_140_0, hi_140_1⟩ := hinv
                          exact absurd hm (by omega)
                        | succ k ih_141 =>
                          intro x_139 x_140 H locs ls hinv hm hw142 hl143
                          obtain ⟨hi_140_0, hi_140_1⟩ := hinv
                          refine lv_aload_n (pc := 171) E.1 E.2.1 dX12_reads_171 rfl (lv_at hl143 1 rfl) ?_
                          refine lv_aload_n (pc := 172) E.1 E.2.1 dX12_reads_172 rfl (lv_at hl143 1 rfl) ?_
                          refine lv_aload_n (pc := 173) E.1 E.2.1 dX12_reads_173 rfl (lv_at hl143 1 rfl) ?_
                          refine x_get (pc := 174) (T := TX12) (N := 70) (ci := 12) (v := .int x_139) E hw142 inX12 0 22 q_1421 rfl rfl (by decide) rfl rfl dX12_reads_174 ?_
                          refine cm_i (pc := 177) hw142 (rn_M (As := [.int x_139]) (rest := [.ref M]) E hw142 (s_raw3 l D cI cJ _ M mr (upd (upd (upd (upd mi 22 x_139) 23 x_5) 24 1) 25 x_140) mf mg x_139 (by show 0 ≤ x_139.toInt; omega) (by show 0 ≤ (mi 21).toInt ∧ (mi 21).toInt ≤ 400; omega)) (gdV q_1670 q_1672 q_53 q_162 q_1673) hdV_X12_raw ⟨rfl, rfl⟩ ⟨(Nat.le_of_ble_eq_true rfl), (Nat.le_of_ble_eq_true rfl)⟩ ⟨(Nat.le_of_ble_eq_true rfl), (Nat.le_of_ble_eq_true rfl)⟩ 12 rfl rfl rfl rfl hl143.1 rfl (Nat.le_of_ble_eq_true rfl) dX12_reads_177) (fun r_145 u_144 H1 locs hp hw146 => ?_)
                          generalize H1 = H at hw146 ⊢
                          have hw147 : WD D A s.heap (MW cI cJ M mr (upd (upd (upd (upd mi 22 x_139) 23 x_5) 24 1) 25 x_140) mf mg) H locs := hw146
                          obtain ⟨hp_148, hp_149⟩ := hp
                          have hp_148 : (x_139).toInt < (mi 21).toInt → r_145 = (mf 20) (x_139).toNatClampNeg := hp_148
                          rcases hp_149 with ⟨ha_150, ha_151⟩ | ha_152
                          · skip
                            have ha_150 : (mi 21).toInt ≤ x_139.toInt := ha_150
                            have ha_151 : r_145.toInt = (-1) := ha_151
                            refine cm_i (pc := 180) hw147 (rn_M (As := [.int r_145]) (rest := []) E hw147 (s_isDigit2 l D cI cJ _ M mr (upd (upd (upd (upd mi 22 x_139) 23 x_5) 24 1) 25 x_140) mf mg r_145) (gdV q_1682 q_1684 q_56 q_162 q_1685) hdV_X12_isDigit ⟨rfl, rfl⟩ ⟨(Nat.le_of_ble_eq_true rfl), (Nat.le_of_ble_eq_true rfl)⟩ ⟨(Nat.le_of_ble_eq_true rfl), (Nat.le_of_ble_eq_true rfl)⟩ 12 rfl rfl rfl rfl hl143.1 rfl (Nat.le_of_ble_eq_true rfl) dX12_reads_180) (fun r_154 u_153 H1 locs hp hw155 => ?_)
                            generalize H1 = H at hw155 ⊢
                            have hw156 : WD D A s.heap (MW cI cJ M mr (upd (upd (upd (upd mi 22 x_139) 23 x_5) 24 1) 25 x_140) mf mg) H locs := hw155
                            have hp_157 := hp
                            rcases hp_157 with ⟨rfl, ha_158, ha_159⟩ | rfl
                            · skip
                              have ha_158 : 48 ≤ r_145.toInt := ha_158
                              have ha_159 : r_145.toInt ≤ 57 := ha_159
                              exfalso; omega
                            · skip
                              refine lv_if_eq (pc := 183) (tgt := 239) E.1 E.2.1 dX12_reads_183 (by decide) (fun _ => ?_) (fun c_160 => absurd (meqE (a := 0) (b := 0) (by decide +kernel) (by decide +kernel) (by omega)) c_160)
                              refine lv_aload_n (pc := 239) E.1 E.2.1 dX12_reads_239 rfl (lv_at hl143 1 rfl) ?_
                              refine x_get (pc := 240) (T := TX12) (N := 70) (ci := 12) (v := .int x_139) E hw156 inX12 0 22 q_1421 rfl rfl (by decide) rfl rfl dX12_reads_240 ?_
                              refine lv_aload_n (pc := 243) E.1 E.2.1 dX12_reads_243 rfl (lv_at hl143 1 rfl) ?_
                              refine x_get (pc := 244) (T := TX12) (N := 70) (ci := 12) (v := .int x_5) E hw156 inX12 0 23 q_1422 rfl rfl (by decide) rfl rfl dX12_reads_244 ?_
                              refine lv_isub (pc := 247) E.1 E.2.1 dX12_reads_247 ?_
                              refine lv_topi (fun v_161 ev_161 => ?_)
                              have hv_161 : v_161.toInt = x_139.toInt - x_5.toInt := by rw [ev_161]; exact subE rfl rfl (by omega)
                              refine lv_iconst (pc := 248) (v := 5) E.1 E.2.1 dX12_reads_248 (by decide +kernel) ?_
                              refine lv_icmp_ge (pc := 249) (tgt := 273) E.1 E.2.1 dX12_reads_249 (by decide) (fun c_162 => ?_) (fun c_162 => ?_)
                              · skip
                                have hc_162 := leE (a := 5) (b := v_161.toInt) (by decide +kernel) rfl c_162
                                exact em_v (w1 := (fun (u : Int32 × Int32 × Int32 × Int32) => (MW cI cJ M mr (upd (upd (upd (upd mi 22 u.1) 23 u.2.1) 24 u.2.2.1) 25 u.2.2.2) mf mg))) E hr hlk (x_139, x_5, 1, x_140) hw156 ⟨hi_5_0, (by show x_5.toInt ≤ x_139.toInt; have k_0 : (1 : Int32).toInt = 1 := (by decide +kernel); omega), hi_140_1, (by show 0 ≤ (1 : Int32).toInt; have k_0 : (1 : Int32).toInt = 1 := (by decide +kernel); omega), (by show (1 : Int32).toInt ≤ 4; have k_0 : (1 : Int32).toInt = 1 := (by decide +kernel); omega), (by show (1 : Int32).toInt ≤ 4 * x_139.toInt - 4 * x_5.toInt; have k_0 : (1 : Int32).toInt = 1 := (by decide +kernel); omega), hi_5_2⟩ (Nat.le_of_ble_eq_true rfl) (Nat.le_of_ble_eq_true rfl) dX12_reads_273
                              · skip
                                have hc_162 := nleE (a := 5) (b := v_161.toInt) (by decide +kernel) rfl c_162
                                refine lv_aload_n (pc := 252) E.1 E.2.1 dX12_reads_252 rfl (lv_at hl143 1 rfl) ?_
                                refine lv_iconst (pc := 253) (v := 3) E.1 E.2.1 dX12_reads_253 (by decide +kernel) ?_
                                refine x_put (pc := 254) (T := TX12) (N := 70) (ci := 12) (ws' := (MW cI cJ M mr (upd (upd (upd (upd mi 22 x_139) 23 x_5) 24 3) 25 x_140) mf mg)) E hw156 inX12 tyX12_ok nmX12 0 24 q_1423 rfl rfl (by decide) rfl rfl rfl rfl (Nat.le_of_ble_eq_true rfl) rfl dX12_reads_254 (fun H locs hw163 => ?_)
                                refine lv_goto (pc := 257) (tgt := 273) E.1 E.2.1 dX12_reads_257 (by decide) ?_
                                exact em_v (w1 := (fun (u : Int32 × Int32 × Int32 × Int32) => (MW cI cJ M mr (upd (upd (upd (upd mi 22 u.1) 23 u.2.1) 24 u.2.2.1) 25 u.2.2.2) mf mg))) E hr hlk (x_139, x_5, 3, x_140) hw163 ⟨hi_5_0, (by show x_5.toInt ≤ x_139.toInt; have k_0 : (3 : Int32).toInt = 3 := (by decide +kernel); omega), hi_140_1, (by show 0 ≤ (3 : Int32).toInt; have k_0 : (3 : Int32).toInt = 3 := (by decide +kernel); omega), (by show (3 : Int32).toInt ≤ 4; have k_0 : (3 : Int32).toInt = 3 := (by decide +kernel); omega), (by show (3 : Int32).toInt ≤ 4 * x_139.toInt - 4 * x_5.toInt; have k_0 : (3 : Int32).toInt = 3 := (by decide +kernel); omega), hi_5_2⟩ (Nat.le_of_ble_eq_true rfl) (Nat.le_of_ble_eq_true rfl) dX12_reads_273
                          · skip
                            have ha_152 : x_139.toInt ≤ (mi 21).toInt - 1 := ha_152
                            refine cm_i (pc := 180) hw147 (rn_M (As := [.int r_145]) (rest := []) E hw147 (s_isDigit2 l D cI cJ _ M mr (upd (upd (upd (upd mi 22 x_139) 23 x_5) 24 1) 25 x_140) mf mg r_145) (gdV q_1682 q_1684 q_56 q_162 q_1685) hdV_X12_isDigit ⟨rfl, rfl⟩ ⟨(Nat.le_of_ble_eq_true rfl), (Nat.le_of_ble_eq_true rfl)⟩ ⟨(Nat.le_of_ble_eq_true rfl), (Nat.le_of_ble_eq_true rfl)⟩ 12 rfl rfl rfl rfl hl143.1 rfl (Nat.le_of_ble_eq_true rfl) dX12_reads_180) (fun r_165 u_164 H1 locs hp hw166 => ?_)
                            generalize H1 = H at hw166 ⊢
                            have hw167 : WD D A s.heap (MW cI cJ M mr (upd (upd (upd (upd mi 22 x_139) 23 x_5) 24 1) 25 x_140) mf mg) H locs := hw166
                            have hp_168 := hp
                            rcases hp_168 with ⟨rfl, ha_169, ha_170⟩ | rfl
                            · skip
                              have ha_169 : 48 ≤ r_145.toInt := ha_169
                              have ha_170 : r_145.toInt ≤ 57 := ha_170
                              refine lv_if_eq (pc := 183) (tgt := 239) E.1 E.2.1 dX12_reads_183 (by decide) (fun c_171 => absurd c_171 (mneE (a := 1) (b := 0) (by decide +kernel) (by decide +kernel) (by omega))) (fun _ => ?_)
                              refine lv_aload_n (pc := 186) E.1 E.2.1 dX12_reads_186 rfl (lv_at hl143 1 rfl) ?_
                              refine lv_aload_n (pc := 187) E.1 E.2.1 dX12_reads_187 rfl (lv_at hl143 1 rfl) ?_
                              refine x_get (pc := 188) (T := TX12) (N := 70) (ci := 12) (v := .int x_140) E hw167 inX12 0 25 q_1424 rfl rfl (by decide) rfl rfl dX12_reads_188 ?_
                              refine lv_sipush (pc := 191) (v := 10000) E.1 E.2.1 dX12_reads_191 (by decide +kernel) ?_
                              refine lv_icmp_ge (pc := 194) (tgt := 219) E.1 E.2.1 dX12_reads_194 (by decide) (fun c_172 => ?_) (fun c_172 => ?_)
                              · skip
                                have hc_172 := leE (a := 10000) (b := x_140.toInt) (by decide +kernel) rfl c_172
                                refine lv_aload_n (pc := 219) E.1 E.2.1 dX12_reads_219 rfl (lv_at hl143 1 rfl) ?_
                                refine x_get (pc := 220) (T := TX12) (N := 70) (ci := 12) (v := .int x_140) E hw167 inX12 0 25 q_1424 rfl rfl (by decide) rfl rfl dX12_reads_220 ?_
                                refine x_put (pc := 223) (T := TX12) (N := 70) (ci := 12) (ws' := (MW cI cJ M mr (upd (upd (upd (upd mi 22 x_139) 23 x_5) 24 1) 25 x_140) mf mg)) E hw167 inX12 tyX12_ok nmX12 0 25 q_1424 rfl rfl (by decide) rfl rfl rfl rfl (Nat.le_of_ble_eq_true rfl) rfl dX12_reads_223 (fun H locs hw173 => ?_)
                                refine lv_aload_n (pc := 226) E.1 E.2.1 dX12_reads_226 rfl (lv_at hl143 1 rfl) ?_
                                refine lv_aload_n (pc := 227) E.1 E.2.1 dX12_reads_227 rfl (lv_at hl143 1 rfl) ?_
                                refine x_get (pc := 228) (T := TX12) (N := 70) (ci := 12) (v := .int x_139) E hw173 inX12 0 22 q_1421 rfl rfl (by decide) rfl rfl dX12_reads_228 ?_
                                refine lv_iconst (pc := 231) (v := 1) E.1 E.2.1 dX12_reads_231 (by decide +kernel) ?_
                                refine lv_iadd (pc := 232) E.1 E.2.1 dX12_reads_232 ?_
                                refine lv_topi (fun v_174 ev_174 => ?_)
                                have hv_174 : v_174.toInt = x_139.toInt + 1 := by rw [ev_174]; exact addE rfl (by decide +kernel) (by omega)
                                refine x_put (pc := 233) (T := TX12) (N := 70) (ci := 12) (ws' := (MW cI cJ M mr (upd (upd (upd (upd mi 22 v_174) 23 x_5) 24 1) 25 x_140) mf mg)) E hw173 inX12 tyX12_ok nmX12 0 22 q_1421 rfl rfl (by decide) rfl rfl rfl rfl (Nat.le_of_ble_eq_true rfl) rfl dX12_reads_233 (fun H locs hw175 => ?_)
                                refine lv_goto (pc := 236) (tgt := 171) E.1 E.2.1 dX12_reads_236 (by decide) ?_
                                exact ih_141 v_174 x_140 _ _ _ ⟨(by show x_5.toInt + 1 ≤ v_174.toInt; omega), (by show v_174.toInt ≤ (mi 21).toInt; omega)⟩ (by omega) hw175 (lv_sub hl143 [0, 1] rfl)
                              · skip
                                have hc_172 := nleE (a := 10000) (b := x_140.toInt) (by decide +kernel) rfl c_172
                                refine lv_bipush (pc := 197) (v := 10) E.1 E.2.1 dX12_reads_197 (by decide +kernel) ?_
                                refine lv_aload_n (pc := 199) E.1 E.2.1 dX12_reads_199 rfl (lv_at hl143 1 rfl) ?_
                                refine x_get (pc := 200) (T := TX12) (N := 70) (ci := 12) (v := .int x_140) E hw167 inX12 0 25 q_1424 rfl rfl (by decide) rfl rfl dX12_reads_200 ?_
                                refine lv_imul (pc := 203) E.1 E.2.1 dX12_reads_203 ?_
                                refine lv_topi (fun v_176 ev_176 => ?_)
                                refine lv_aload_n (pc := 204) E.1 E.2.1 dX12_reads_204 rfl (lv_at hl143 1 rfl) ?_
                                refine lv_aload_n (pc := 205) E.1 E.2.1 dX12_reads_205 rfl (lv_at hl143 1 rfl) ?_
                                refine x_get (pc := 206) (T := TX12) (N := 70) (ci := 12) (v := .int x_139) E hw167 inX12 0 22 q_1421 rfl rfl (by decide) rfl rfl dX12_reads_206 ?_
                                refine cm_i (pc := 209) hw167 (rn_M (As := [.int x_139]) (rest := [.int v_176, .ref M]) E hw167 (s_raw3 l D cI cJ _ M mr (upd (upd (upd (upd mi 22 x_139) 23 x_5) 24 1) 25 x_140) mf mg x_139 (by show 0 ≤ x_139.toInt; omega) (by show 0 ≤ (mi 21).toInt ∧ (mi 21).toInt ≤ 400; omega)) (gdV q_1670 q_1672 q_53 q_162 q_1673) hdV_X12_raw ⟨rfl, rfl⟩ ⟨(Nat.le_of_ble_eq_true rfl), (Nat.le_of_ble_eq_true rfl)⟩ ⟨(Nat.le_of_ble_eq_true rfl), (Nat.le_of_ble_eq_true rfl)⟩ 12 rfl rfl rfl rfl hl143.1 rfl (Nat.le_of_ble_eq_true rfl) dX12_reads_209) (fun r_178 u_177 H1 locs hp hw179 => ?_)
                                generalize H1 = H at hw179 ⊢
                                have hw180 : WD D A s.heap (MW cI cJ M mr (upd (upd (upd (upd mi 22 x_139) 23 x_5) 24 1) 25 x_140) mf mg) H locs := hw179
                                obtain ⟨hp_181, hp_182⟩ := hp
                                have hp_181 : (x_139).toInt < (mi 21).toInt → r_178 = (mf 20) (x_139).toNatClampNeg := hp_181
                                rcases hp_182 with ⟨ha_183, ha_184⟩ | ha_185
                                · skip
                                  have ha_183 : (mi 21).toInt ≤ x_139.toInt := ha_183
                                  have ha_184 : r_178.toInt = (-1) := ha_184
                                  exfalso; omega
                                · skip
                                  have ha_185 : x_139.toInt ≤ (mi 21).toInt - 1 := ha_185
                                  refine lv_iadd (pc := 212) E.1 E.2.1 dX12_reads_212 ?_
                                  refine lv_topi (fun v_186 ev_186 => ?_)
                                  refine lv_bipush (pc := 213) (v := 48) E.1 E.2.1 dX12_reads_213 (by decide +kernel) ?_
                                  refine lv_isub (pc := 215) E.1 E.2.1 dX12_reads_215 ?_
                                  refine lv_topi (fun v_187 ev_187 => ?_)
                                  refine lv_goto (pc := 216) (tgt := 223) E.1 E.2.1 dX12_reads_216 (by decide) ?_
                                  refine x_put (pc := 223) (T := TX12) (N := 70) (ci := 12) (ws' := (MW cI cJ M mr (upd (upd (upd (upd mi 22 x_139) 23 x_5) 24 1) 25 v_187) mf mg)) E hw180 inX12 tyX12_ok nmX12 0 25 q_1424 rfl rfl (by decide) rfl rfl rfl rfl (Nat.le_of_ble_eq_true rfl) rfl dX12_reads_223 (fun H locs hw188 => ?_)
                                  refine lv_aload_n (pc := 226) E.1 E.2.1 dX12_reads_226 rfl (lv_at hl143 1 rfl) ?_
                                  refine lv_aload_n (pc := 227) E.1 E.2.1 dX12_reads_227 rfl (lv_at hl143 1 rfl) ?_
                                  refine x_get (pc := 228) (T := TX12) (N := 70) (ci := 12) (v := .int x_139) E hw188 inX12 0 22 q_1421 rfl rfl (by decide) rfl rfl dX12_reads_228 ?_
                                  refine lv_iconst (pc := 231) (v := 1) E.1 E.2.1 dX12_reads_231 (by decide +kernel) ?_
                                  refine lv_iadd (pc := 232) E.1 E.2.1 dX12_reads_232 ?_
                                  refine lv_topi (fun v_189 ev_189 => ?_)
                                  have hv_189 : v_189.toInt = x_139.toInt + 1 := by rw [ev_189]; exact addE rfl (by decide +kernel) (by omega)
                                  refine x_put (pc := 233) (T := TX12) (N := 70) (ci := 12) (ws' := (MW cI cJ M mr (upd (upd (upd (upd mi 22 v_189) 23 x_5) 24 1) 25 v_187) mf mg)) E hw188 inX12 tyX12_ok nmX12 0 22 q_1421 rfl rfl (by decide) rfl rfl rfl rfl (Nat.le_of_ble_eq_true rfl) rfl dX12_reads_233 (fun H locs hw190 => ?_)
                                  refine lv_goto (pc := 236) (tgt := 171) E.1 E.2.1 dX12_reads_236 (by decide) ?_
                                  exact ih_141 v_189 v_187 _ _ _ ⟨(by show x_5.toInt + 1 ≤ v_189.toInt; omega), (by show v_189.toInt ≤ (mi 21).toInt; omega)⟩ (by omega) hw190 (lv_sub hl143 [0, 1] rfl)
                            · skip
                              refine lv_if_eq (pc := 183) (tgt := 239) E.1 E.2.1 dX12_reads_183 (by decide) (fun _ => ?_) (fun c_191 => absurd (meqE (a := 0) (b := 0) (by decide +kernel) (by decide +kernel) (by omega)) c_191)
                              refine lv_aload_n (pc := 239) E.1 E.2.1 dX12_reads_239 rfl (lv_at hl143 1 rfl) ?_
                              refine x_get (pc := 240) (T := TX12) (N := 70) (ci := 12) (v := .int x_139) E hw167 inX12 0 22 q_1421 rfl rfl (by decide) rfl rfl dX12_reads_240 ?_
                              refine lv_aload_n (pc := 243) E.1 E.2.1 dX12_reads_243 rfl (lv_at hl143 1 rfl) ?_
                              refine x_get (pc := 244) (T := TX12) (N := 70) (ci := 12) (v := .int x_5) E hw167 inX12 0 23 q_1422 rfl rfl (by decide) rfl rfl dX12_reads_244 ?_
                              refine lv_isub (pc := 247) E.1 E.2.1 dX12_reads_247 ?_
                              refine lv_topi (fun v_192 ev_192 => ?_)
                              have hv_192 : v_192.toInt = x_139.toInt - x_5.toInt := by rw [ev_192]; exact subE rfl rfl (by omega)
                              refine lv_iconst (pc := 248) (v := 5) E.1 E.2.1 dX12_reads_248 (by decide +kernel) ?_
                              refine lv_icmp_ge (pc := 249) (tgt := 273) E.1 E.2.1 dX12_reads_249 (by decide) (fun c_193 => ?_) (fun c_193 => ?_)
                              · skip
                                have hc_193 := leE (a := 5) (b := v_192.toInt) (by decide +kernel) rfl c_193
                                exact em_v (w1 := (fun (u : Int32 × Int32 × Int32 × Int32) => (MW cI cJ M mr (upd (upd (upd (upd mi 22 u.1) 23 u.2.1) 24 u.2.2.1) 25 u.2.2.2) mf mg))) E hr hlk (x_139, x_5, 1, x_140) hw167 ⟨hi_5_0, (by show x_5.toInt ≤ x_139.toInt; have k_0 : (1 : Int32).toInt = 1 := (by decide +kernel); omega), hi_140_1, (by show 0 ≤ (1 : Int32).toInt; have k_0 : (1 : Int32).toInt = 1 := (by decide +kernel); omega), (by show (1 : Int32).toInt ≤ 4; have k_0 : (1 : Int32).toInt = 1 := (by decide +kernel); omega), (by show (1 : Int32).toInt ≤ 4 * x_139.toInt - 4 * x_5.toInt; have k_0 : (1 : Int32).toInt = 1 := (by decide +kernel); omega), hi_5_2⟩ (Nat.le_of_ble_eq_true rfl) (Nat.le_of_ble_eq_true rfl) dX12_reads_273
                              · skip
                                have hc_193 := nleE (a := 5) (b := v_192.toInt) (by decide +kernel) rfl c_193
                                refine lv_aload_n (pc := 252) E.1 E.2.1 dX12_reads_252 rfl (lv_at hl143 1 rfl) ?_
                                refine lv_iconst (pc := 253) (v := 3) E.1 E.2.1 dX12_reads_253 (by decide +kernel) ?_
                                refine x_put (pc := 254) (T := TX12) (N := 70) (ci := 12) (ws' := (MW cI cJ M mr (upd (upd (upd (upd mi 22 x_139) 23 x_5) 24 3) 25 x_140) mf mg)) E hw167 inX12 tyX12_ok nmX12 0 24 q_1423 rfl rfl (by decide) rfl rfl rfl rfl (Nat.le_of_ble_eq_true rfl) rfl dX12_reads_254 (fun H locs hw194 => ?_)
                                refine lv_goto (pc := 257) (tgt := 273) E.1 E.2.1 dX12_reads_257 (by decide) ?_
                                exact em_v (w1 := (fun (u : Int32 × Int32 × Int32 × Int32) => (MW cI cJ M mr (upd (upd (upd (upd mi 22 u.1) 23 u.2.1) 24 u.2.2.1) 25 u.2.2.2) mf mg))) E hr hlk (x_139, x_5, 3, x_140) hw194 ⟨hi_5_0, (by show x_5.toInt ≤ x_139.toInt; have k_0 : (3 : Int32).toInt = 3 := (by decide +kernel); omega), hi_140_1, (by show 0 ≤ (3 : Int32).toInt; have k_0 : (3 : Int32).toInt = 3 := (by decide +kernel); omega), (by show (3 : Int32).toInt ≤ 4; have k_0 : (3 : Int32).toInt = 3 := (by decide +kernel); omega), (by show (3 : Int32).toInt ≤ 4 * x_139.toInt - 4 * x_5.toInt; have k_0 : (3 : Int32).toInt = 3 := (by decide +kernel); omega), hi_5_2⟩ (Nat.le_of_ble_eq_true rfl) (Nat.le_of_ble_eq_true rfl) dX12_reads_273
                      exact loop_138 (Int.toNat ((mi 21).toInt - v_69.toInt) + 1) v_69 v_136 _ _ _ ⟨(by show x_5.toInt + 1 ≤ v_69.toInt; omega), (by show v_69.toInt ≤ (mi 21).toInt; omega)⟩ (by omega) hw137 (lv_sub hl67 [0, 1] rfl)
                    · skip
                      refine lv_if_eq (pc := 160) (tgt := 260) E.1 E.2.1 dX12_reads_160 (by decide) (fun _ => ?_) (fun c_195 => absurd (meqE (a := 0) (b := 0) (by decide +kernel) (by decide +kernel) (by omega)) c_195)
                      refine lv_aload_n (pc := 260) E.1 E.2.1 dX12_reads_260 rfl (lv_at hl67 1 rfl) ?_
                      refine lv_iload_n (pc := 261) E.1 E.2.1 dX12_reads_261 rfl (lv_at hl67 0 rfl) ?_
                      refine cm_i (pc := 262) hw131 (rn_M (As := [.int r_59]) (rest := []) E hw131 (s_isMarkSign l D cI cJ _ M mr (upd (upd (upd (upd mi 22 v_69) 23 x_5) 24 1) 25 r_59) mf mg r_59) (gdV q_1686 q_1688 q_57 q_162 q_1689) hdV_X12_isMarkSign ⟨rfl, rfl⟩ ⟨(Nat.le_of_ble_eq_true rfl), (Nat.le_of_ble_eq_true rfl)⟩ ⟨(Nat.le_of_ble_eq_true rfl), (Nat.le_of_ble_eq_true rfl)⟩ 12 rfl rfl rfl rfl hl67.1 rfl (Nat.le_of_ble_eq_true rfl) dX12_reads_262) (fun r_197 u_196 H1 locs hp hw198 => ?_)
                      generalize H1 = H at hw198 ⊢
                      have hw199 : WD D A s.heap (MW cI cJ M mr (upd (upd (upd (upd mi 22 v_69) 23 x_5) 24 1) 25 r_59) mf mg) H locs := hw198
                      have hp_200 := hp
                      have hp_200 : 0 ≤ r_197.toInt ∧ r_197.toInt ≤ 1 := hp_200
                      refine lv_if_eq (pc := 265) (tgt := 273) E.1 E.2.1 dX12_reads_265 (by decide) (fun c_201 => ?_) (fun c_201 => ?_)
                      · skip
                        have hc_201 := eqE (a := r_197.toInt) (b := 0) rfl (by decide +kernel) c_201
                        exact em_v (w1 := (fun (u : Int32 × Int32 × Int32 × Int32) => (MW cI cJ M mr (upd (upd (upd (upd mi 22 u.1) 23 u.2.1) 24 u.2.2.1) 25 u.2.2.2) mf mg))) E hr hlk (v_69, x_5, 1, r_59) hw199 ⟨hi_5_0, (by show x_5.toInt ≤ v_69.toInt; have k_0 : (1 : Int32).toInt = 1 := (by decide +kernel); omega), (by show v_69.toInt ≤ (mi 21).toInt; have k_0 : (1 : Int32).toInt = 1 := (by decide +kernel); omega), (by show 0 ≤ (1 : Int32).toInt; have k_0 : (1 : Int32).toInt = 1 := (by decide +kernel); omega), (by show (1 : Int32).toInt ≤ 4; have k_0 : (1 : Int32).toInt = 1 := (by decide +kernel); omega), (by show (1 : Int32).toInt ≤ 4 * v_69.toInt - 4 * x_5.toInt; have k_0 : (1 : Int32).toInt = 1 := (by decide +kernel); omega), hi_5_2⟩ (Nat.le_of_ble_eq_true rfl) (Nat.le_of_ble_eq_true rfl) dX12_reads_273
                      · skip
                        have hc_201 := neE (a := r_197.toInt) (b := 0) rfl (by decide +kernel) c_201
                        refine lv_aload_n (pc := 268) E.1 E.2.1 dX12_reads_268 rfl (lv_at hl67 1 rfl) ?_
                        refine lv_iconst (pc := 269) (v := 4) E.1 E.2.1 dX12_reads_269 (by decide +kernel) ?_
                        refine x_put (pc := 270) (T := TX12) (N := 70) (ci := 12) (ws' := (MW cI cJ M mr (upd (upd (upd (upd mi 22 v_69) 23 x_5) 24 4) 25 r_59) mf mg)) E hw199 inX12 tyX12_ok nmX12 0 24 q_1423 rfl rfl (by decide) rfl rfl rfl rfl (Nat.le_of_ble_eq_true rfl) rfl dX12_reads_270 (fun H locs hw202 => ?_)
                        exact em_v (w1 := (fun (u : Int32 × Int32 × Int32 × Int32) => (MW cI cJ M mr (upd (upd (upd (upd mi 22 u.1) 23 u.2.1) 24 u.2.2.1) 25 u.2.2.2) mf mg))) E hr hlk (v_69, x_5, 4, r_59) hw202 ⟨hi_5_0, (by show x_5.toInt ≤ v_69.toInt; have k_0 : (4 : Int32).toInt = 4 := (by decide +kernel); omega), (by show v_69.toInt ≤ (mi 21).toInt; have k_0 : (4 : Int32).toInt = 4 := (by decide +kernel); omega), (by show 0 ≤ (4 : Int32).toInt; have k_0 : (4 : Int32).toInt = 4 := (by decide +kernel); omega), (by show (4 : Int32).toInt ≤ 4; have k_0 : (4 : Int32).toInt = 4 := (by decide +kernel); omega), (by show (4 : Int32).toInt ≤ 4 * v_69.toInt - 4 * x_5.toInt; have k_0 : (4 : Int32).toInt = 4 := (by decide +kernel); omega), hi_5_2⟩ (Nat.le_of_ble_eq_true rfl) (Nat.le_of_ble_eq_true rfl) dX12_reads_273
                · skip
                  have hc_68 := eqE (a := r_59.toInt) (b := (-1)) rfl (by decide +kernel) c_68
                  refine lv_aload_n (pc := 66) E.1 E.2.1 dX12_reads_66 rfl (lv_at hl67 1 rfl) ?_
                  refine lv_iconst (pc := 67) (v := 0) E.1 E.2.1 dX12_reads_67 (by decide +kernel) ?_
                  refine x_put (pc := 68) (T := TX12) (N := 70) (ci := 12) (ws' := (MW cI cJ M mr (upd (upd (upd mi 22 x_5) 23 x_5) 24 0) mf mg)) E hw61 inX12 tyX12_ok nmX12 0 24 q_1423 rfl rfl (by decide) rfl rfl rfl rfl (Nat.le_of_ble_eq_true rfl) rfl dX12_reads_68 (fun H locs hw203 => ?_)
                  exact em_v (w1 := (fun (u : Int32 × Int32 × Int32 × Int32) => (MW cI cJ M mr (upd (upd (upd (upd mi 22 u.1) 23 u.2.1) 24 u.2.2.1) 25 u.2.2.2) mf mg))) E hr hlk (x_5, x_5, 0, (mi 25)) hw203 ⟨hi_5_0, (by show x_5.toInt ≤ x_5.toInt; have k_0 : (0 : Int32).toInt = 0 := (by decide +kernel); omega), hi_5_1, (by show 0 ≤ (0 : Int32).toInt; have k_0 : (0 : Int32).toInt = 0 := (by decide +kernel); omega), (by show (0 : Int32).toInt ≤ 4; have k_0 : (0 : Int32).toInt = 0 := (by decide +kernel); omega), (by show (0 : Int32).toInt ≤ 4 * x_5.toInt - 4 * x_5.toInt; have k_0 : (0 : Int32).toInt = 0 := (by decide +kernel); omega), hi_5_2⟩ (Nat.le_of_ble_eq_true rfl) (Nat.le_of_ble_eq_true rfl) dX12_reads_71
            · skip
              have hc_55 := eqE (a := r_47.toInt) (b := 10) rfl (by decide +kernel) c_55
              refine lv_aload_n (pc := 26) E.1 E.2.1 dX12_reads_26 rfl (lv_at hl8 0 rfl) ?_
              refine lv_aload_n (pc := 27) E.1 E.2.1 dX12_reads_27 rfl (lv_at hl8 0 rfl) ?_
              refine x_get (pc := 28) (T := TX12) (N := 70) (ci := 12) (v := .int x_5) E hw49 inX12 0 22 q_1421 rfl rfl (by decide) rfl rfl dX12_reads_28 ?_
              refine lv_iconst (pc := 31) (v := 1) E.1 E.2.1 dX12_reads_31 (by decide +kernel) ?_
              refine lv_iadd (pc := 32) E.1 E.2.1 dX12_reads_32 ?_
              refine lv_topi (fun v_204 ev_204 => ?_)
              have hv_204 : v_204.toInt = x_5.toInt + 1 := by rw [ev_204]; exact addE rfl (by decide +kernel) (by omega)
              refine x_put (pc := 33) (T := TX12) (N := 70) (ci := 12) (ws' := (MW cI cJ M mr (upd mi 22 v_204) mf mg)) E hw49 inX12 tyX12_ok nmX12 0 22 q_1421 rfl rfl (by decide) rfl rfl rfl rfl (Nat.le_of_ble_eq_true rfl) rfl dX12_reads_33 (fun H locs hw205 => ?_)
              refine lv_goto (pc := 36) (tgt := 0) E.1 E.2.1 dX12_reads_36 (by decide) ?_
              exact ih_6 v_204 _ _ _ ⟨(by show 0 ≤ v_204.toInt; omega), (by show v_204.toInt ≤ (mi 21).toInt; omega), (by show (mi 22).toInt ≤ v_204.toInt; omega)⟩ (by omega) hw205 (lv_sub hl8 [0] rfl)
  exact loop_4 (Int.toNat ((mi 21).toInt - (mi 22).toInt) + 1) (mi 22) _ _ _ ⟨h0, h1, (by show (mi 22).toInt ≤ (mi 22).toInt; omega)⟩ (by omega) hw1 (lv_sub hl3 [0] rfl)

set_option maxHeartbeats 4000000 in
set_option maxRecDepth 100000 in
theorem s_emits2 (l : Launch) (D : va_G) (cI cJ : ClassId) (sz M : Nat) (mr : Nat → Nat) (mi : Nat → Int32) (mf : Nat → Nat → Int32) (mg : Nat → Nat → Int64) (z_what : Int32) (z_v : Int32) (h0 : 0 ≤ (mi 34).toInt ∧ (mi 34).toInt ≤ 399) (lf_law0 : LW 0 0 (mf 31) (mf 32) (mf 28) (mf 29) (mf 30) ((mf 27) 0).toInt 400) (lf_law1 : LW 16 400 (mf 31) (mf 32) (mf 28) (mf 29) (mf 30) ((mf 27) 1).toInt 400) : Met l yX12_emits (Cond.code yX12_emits cX12_emits 3 none :: GW) ({ frames := 1, cells := 0, slots := 0, locals := 40 } : Room) (va_Pc [.ref M, .int z_what, .int z_v] (PW D cI cJ sz (MW cI cJ M mr mi mf mg) xT)) (va_Qv (fun (u : (Nat → Int32) × (Nat → Int32) × Int32) => (u.2.2.toInt = (mi 34).toInt + 1) ∧ (LW 0 0 u.1 u.2.1 (mf 28) (mf 29) (mf 30) ((mf 27) 0).toInt 400) ∧ (LW 16 400 u.1 u.2.1 (mf 28) (mf 29) (mf 30) ((mf 27) 1).toInt 400) ∧ (EM (mf 31) (mf 32) u.1 u.2.1 (800 + ((mi 34).toInt).toNat) z_what z_v)) (fun u => QW D cI cJ (va_A (MW cI cJ M mr mi mf mg) sz) ((fun (u : (Nat → Int32) × (Nat → Int32) × Int32) => (MW cI cJ M mr (upd mi 34 u.2.2) (va_up (va_up mf 31 u.1) 32 u.2.1) mg)) u)) (va_A (MW cI cJ M mr mi mf mg) sz)) 0 0 (va_A (MW cI cJ M mr mi mf mg) sz) := by
  refine mk_met (y := yX12_emits) (bytes := cX12_emits) (maxL := 3) (avs := [.ref M, .int z_what, .int z_v]) (WS := (MW cI cJ M mr mi mf mg)) (Qf := fun A => va_Qv (fun (u : (Nat → Int32) × (Nat → Int32) × Int32) => (u.2.2.toInt = (mi 34).toInt + 1) ∧ (LW 0 0 u.1 u.2.1 (mf 28) (mf 29) (mf 30) ((mf 27) 0).toInt 400) ∧ (LW 16 400 u.1 u.2.1 (mf 28) (mf 29) (mf 30) ((mf 27) 1).toInt 400) ∧ (EM (mf 31) (mf 32) u.1 u.2.1 (800 + ((mi 34).toInt).toNat) z_what z_v)) (fun u => QW D cI cJ A ((fun (u : (Nat → Int32) × (Nat → Int32) × Int32) => (MW cI cJ M mr (upd mi 34 u.2.2) (va_up (va_up mf 31 u.1) 32 u.2.1) mg)) u)) A) (by decide) (Nat.le_of_ble_eq_true rfl) ?_
  intro p e s m below meth c A ls E hr hlk hnm hX hw1 hl2
  have hl3 : lv_has ls 3 [(0, .ref M), (1, .int z_what), (2, .int z_v)] := hl2
  refine lv_aload_n (pc := 0) E.1 E.2.1 dX12_emits_0 rfl (lv_at hl3 0 rfl) ?_
  refine x_get (pc := 1) (T := TX12) (N := 70) (ci := 12) (v := .ref (mr 31)) E hw1 inX12 0 31 q_1430 rfl rfl (by decide) rfl rfl dX12_emits_1 ?_
  refine lv_sipush (pc := 4) (v := 800) E.1 E.2.1 dX12_emits_4 (by decide +kernel) ?_
  refine lv_aload_n (pc := 7) E.1 E.2.1 dX12_emits_7 rfl (lv_at hl3 0 rfl) ?_
  refine x_get (pc := 8) (T := TX12) (N := 70) (ci := 12) (v := .int (mi 34)) E hw1 inX12 0 34 q_1433 rfl rfl (by decide) rfl rfl dX12_emits_8 ?_
  refine lv_iadd (pc := 11) E.1 E.2.1 dX12_emits_11 ?_
  refine lv_topi (fun v_4 ev_4 => ?_)
  have hv_4 : v_4.toInt = 800 + (mi 34).toInt := by rw [ev_4]; exact addE (by decide +kernel) rfl (by omega)
  refine lv_iload_n (pc := 12) E.1 E.2.1 dX12_emits_12 rfl (lv_at hl3 1 rfl) ?_
  refine x_iastG (pc := 13) (f := (mf 31)) (wf := fun g => (MW cI cJ M mr mi (va_up mf 31 g) mg)) E hw1 18 rfl (inbE (a := v_4.toInt) rfl (by omega)) (fun _ => rfl) dX12_emits_13 (fun g_5 H locs eg_5 hw6 => ?_)
  refine lv_aload_n (pc := 14) E.1 E.2.1 dX12_emits_14 rfl (lv_at hl3 0 rfl) ?_
  refine x_get (pc := 15) (T := TX12) (N := 70) (ci := 12) (v := .ref (mr 32)) E hw6 inX12 0 32 q_1431 rfl rfl (by decide) rfl rfl dX12_emits_15 ?_
  refine lv_sipush (pc := 18) (v := 800) E.1 E.2.1 dX12_emits_18 (by decide +kernel) ?_
  refine lv_aload_n (pc := 21) E.1 E.2.1 dX12_emits_21 rfl (lv_at hl3 0 rfl) ?_
  refine x_get (pc := 22) (T := TX12) (N := 70) (ci := 12) (v := .int (mi 34)) E hw6 inX12 0 34 q_1433 rfl rfl (by decide) rfl rfl dX12_emits_22 ?_
  refine lv_iadd (pc := 25) E.1 E.2.1 dX12_emits_25 ?_
  refine lv_topi (fun v_7 ev_7 => ?_)
  have hv_7 : v_7.toInt = 800 + (mi 34).toInt := by rw [ev_7]; exact addE (by decide +kernel) rfl (by omega)
  refine lv_iload_n (pc := 26) E.1 E.2.1 dX12_emits_26 rfl (lv_at hl3 2 rfl) ?_
  refine x_iastG (pc := 27) (f := (mf 32)) (wf := fun g => (MW cI cJ M mr mi (va_up (va_up mf 31 g_5) 32 g) mg)) E hw6 19 rfl (inbE (a := v_7.toInt) rfl (by omega)) (fun _ => rfl) dX12_emits_27 (fun g_8 H locs eg_8 hw9 => ?_)
  refine lv_aload_n (pc := 28) E.1 E.2.1 dX12_emits_28 rfl (lv_at hl3 0 rfl) ?_
  refine lv_aload_n (pc := 29) E.1 E.2.1 dX12_emits_29 rfl (lv_at hl3 0 rfl) ?_
  refine x_get (pc := 30) (T := TX12) (N := 70) (ci := 12) (v := .int (mi 34)) E hw9 inX12 0 34 q_1433 rfl rfl (by decide) rfl rfl dX12_emits_30 ?_
  refine lv_iconst (pc := 33) (v := 1) E.1 E.2.1 dX12_emits_33 (by decide +kernel) ?_
  refine lv_iadd (pc := 34) E.1 E.2.1 dX12_emits_34 ?_
  refine lv_topi (fun v_10 ev_10 => ?_)
  have hv_10 : v_10.toInt = (mi 34).toInt + 1 := by rw [ev_10]; exact addE rfl (by decide +kernel) (by omega)
  refine x_put (pc := 35) (T := TX12) (N := 70) (ci := 12) (ws' := (MW cI cJ M mr (upd mi 34 v_10) (va_up (va_up mf 31 g_5) 32 g_8) mg)) E hw9 inX12 tyX12_ok nmX12 0 34 q_1433 rfl rfl (by decide) rfl rfl rfl rfl (Nat.le_of_ble_eq_true rfl) rfl dX12_emits_35 (fun H locs hw11 => ?_)
  exact em_v (w1 := (fun (u : (Nat → Int32) × (Nat → Int32) × Int32) => (MW cI cJ M mr (upd mi 34 u.2.2) (va_up (va_up mf 31 u.1) 32 u.2.1) mg))) E hr hlk (g_5, g_8, v_10) hw11 ⟨(by show v_10.toInt = (mi 34).toInt + 1; omega), (show LW 0 0 g_5 g_8 (mf 28) (mf 29) (mf 30) ((mf 27) 0).toInt 400 from (LW_em lf_law0 (EM_of (n := 800 + ((mi 34).toInt).toNat) eg_5 eg_8 (by omega) (by omega)) (by omega))), (show LW 16 400 g_5 g_8 (mf 28) (mf 29) (mf 30) ((mf 27) 1).toInt 400 from (LW_em lf_law1 (EM_of (n := 800 + ((mi 34).toInt).toNat) eg_5 eg_8 (by omega) (by omega)) (by omega))), (show EM (mf 31) (mf 32) g_5 g_8 (800 + ((mi 34).toInt).toNat) z_what z_v from (EM_of (n := 800 + ((mi 34).toInt).toNat) eg_5 eg_8 (by omega) (by omega)))⟩ (Nat.le_of_ble_eq_true rfl) (Nat.le_of_ble_eq_true rfl) dX12_emits_38

set_option maxHeartbeats 4000000 in
set_option maxRecDepth 100000 in
theorem s_readUnit (l : Launch) (D : va_G) (cI cJ : ClassId) (sz M : Nat) (mr : Nat → Nat) (mi : Nat → Int32) (mf : Nat → Nat → Int32) (mg : Nat → Nat → Int64)  (h0 : 0 ≤ (mi 23).toInt) (h1 : (mi 23).toInt ≤ (mi 22).toInt) (h2 : (mi 22).toInt ≤ (mi 21).toInt) (h3 : (mi 21).toInt ≤ 400) (h4 : 0 ≤ (mi 24).toInt) (h5 : (mi 24).toInt ≤ 4) (h6 : (mi 24).toInt ≤ 4 * (mi 22).toInt - 4 * (mi 23).toInt) (h7 : ((mf 26) 153).toInt = 32) (h8 : 0 ≤ (mi 34).toInt) (h9 : (mi 34).toInt ≤ (mi 23).toInt) (lf_law0 : LW 0 0 (mf 31) (mf 32) (mf 28) (mf 29) (mf 30) ((mf 27) 0).toInt 400) (lf_law1 : LW 16 400 (mf 31) (mf 32) (mf 28) (mf 29) (mf 30) ((mf 27) 1).toInt 400) : Met l yX12_readUnit (Cond.code yX12_readUnit cX12_readUnit 2 (some .int) :: GW) ({ frames := 4, cells := 0, slots := 0, locals := 105 } : Room) (va_Pc [.ref M] (PW D cI cJ sz (MW cI cJ M mr mi mf mg) xT)) (va_Qi (fun (r : Int32) (u : Int32 × Int32 × Int32 × Int32 × (Nat → Int32) × (Nat → Int32) × Int32 × Int32 × Int32) => (0 ≤ u.2.1.toInt) ∧ (u.2.1.toInt ≤ u.1.toInt) ∧ (u.1.toInt ≤ (mi 21).toInt) ∧ (0 ≤ u.2.2.1.toInt) ∧ (u.2.2.1.toInt ≤ 4) ∧ (u.2.2.1.toInt ≤ 4 * u.1.toInt - 4 * u.2.1.toInt) ∧ (0 ≤ u.2.2.2.2.2.2.1.toInt) ∧ (u.2.2.2.2.2.2.1.toInt ≤ u.2.1.toInt) ∧ (LW 0 0 u.2.2.2.2.1 u.2.2.2.2.2.1 (mf 28) (mf 29) (mf 30) ((mf 27) 0).toInt 400) ∧ (LW 16 400 u.2.2.2.2.1 u.2.2.2.2.2.1 (mf 28) (mf 29) (mf 30) ((mf 27) 1).toInt 400) ∧ (r = 0 → TX (mf 31) (mf 32) (800 + ((mi 34).toInt).toNat) u.2.2.2.2.1 u.2.2.2.2.2.1 (800 + (u.2.2.2.2.2.2.1.toInt).toNat)) ∧ (r = 0 → ((mi 24).toInt = 3 → u.2.2.2.2.1 (800 + ((mi 34).toInt).toNat) = 0 ∧ (u.2.2.2.2.2.1 (800 + ((mi 34).toInt).toNat)).toInt = (mi 25).toInt)) ∧ ((r = (-1)) ∨ (r = 0 ∧ (mi 23).toInt - (mi 34).toInt ≤ u.2.1.toInt - u.2.2.2.2.2.2.1.toInt ∧ (mi 23).toInt + 1 ≤ u.2.1.toInt ∧ u.2.2.2.2.2.2.1.toInt = (mi 34).toInt + 1))) (fun u => QW D cI cJ (va_A (MW cI cJ M mr mi mf mg) sz) ((fun (u : Int32 × Int32 × Int32 × Int32 × (Nat → Int32) × (Nat → Int32) × Int32 × Int32 × Int32) => (MW cI cJ M mr (upd (upd (upd (upd (upd (upd (upd mi 22 u.1) 23 u.2.1) 24 u.2.2.1) 25 u.2.2.2.1) 34 u.2.2.2.2.2.2.1) 38 u.2.2.2.2.2.2.2.1) 39 u.2.2.2.2.2.2.2.2) (va_up (va_up mf 31 u.2.2.2.2.1) 32 u.2.2.2.2.2.1) mg)) u)) (va_A (MW cI cJ M mr mi mf mg) sz)) 0 0 (va_A (MW cI cJ M mr mi mf mg) sz) := by
  refine mk_met (y := yX12_readUnit) (bytes := cX12_readUnit) (maxL := 2) (avs := [.ref M]) (WS := (MW cI cJ M mr mi mf mg)) (Qf := fun A => va_Qi (fun (r : Int32) (u : Int32 × Int32 × Int32 × Int32 × (Nat → Int32) × (Nat → Int32) × Int32 × Int32 × Int32) => (0 ≤ u.2.1.toInt) ∧ (u.2.1.toInt ≤ u.1.toInt) ∧ (u.1.toInt ≤ (mi 21).toInt) ∧ (0 ≤ u.2.2.1.toInt) ∧ (u.2.2.1.toInt ≤ 4) ∧ (u.2.2.1.toInt ≤ 4 * u.1.toInt - 4 * u.2.1.toInt) ∧ (0 ≤ u.2.2.2.2.2.2.1.toInt) ∧ (u.2.2.2.2.2.2.1.toInt ≤ u.2.1.toInt) ∧ (LW 0 0 u.2.2.2.2.1 u.2.2.2.2.2.1 (mf 28) (mf 29) (mf 30) ((mf 27) 0).toInt 400) ∧ (LW 16 400 u.2.2.2.2.1 u.2.2.2.2.2.1 (mf 28) (mf 29) (mf 30) ((mf 27) 1).toInt 400) ∧ (r = 0 → TX (mf 31) (mf 32) (800 + ((mi 34).toInt).toNat) u.2.2.2.2.1 u.2.2.2.2.2.1 (800 + (u.2.2.2.2.2.2.1.toInt).toNat)) ∧ (r = 0 → ((mi 24).toInt = 3 → u.2.2.2.2.1 (800 + ((mi 34).toInt).toNat) = 0 ∧ (u.2.2.2.2.2.1 (800 + ((mi 34).toInt).toNat)).toInt = (mi 25).toInt)) ∧ ((r = (-1)) ∨ (r = 0 ∧ (mi 23).toInt - (mi 34).toInt ≤ u.2.1.toInt - u.2.2.2.2.2.2.1.toInt ∧ (mi 23).toInt + 1 ≤ u.2.1.toInt ∧ u.2.2.2.2.2.2.1.toInt = (mi 34).toInt + 1))) (fun u => QW D cI cJ A ((fun (u : Int32 × Int32 × Int32 × Int32 × (Nat → Int32) × (Nat → Int32) × Int32 × Int32 × Int32) => (MW cI cJ M mr (upd (upd (upd (upd (upd (upd (upd mi 22 u.1) 23 u.2.1) 24 u.2.2.1) 25 u.2.2.2.1) 34 u.2.2.2.2.2.2.1) 38 u.2.2.2.2.2.2.2.1) 39 u.2.2.2.2.2.2.2.2) (va_up (va_up mf 31 u.2.2.2.2.1) 32 u.2.2.2.2.2.1) mg)) u)) A) (by decide) (Nat.le_of_ble_eq_true rfl) ?_
  intro p e s m below meth c A ls E hr hlk hnm hX hw1 hl2
  have hl3 : lv_has ls 2 [(0, .ref M)] := hl2
  refine lv_aload_n (pc := 0) E.1 E.2.1 dX12_readUnit_0 rfl (lv_at hl3 0 rfl) ?_
  refine x_get (pc := 1) (T := TX12) (N := 70) (ci := 12) (v := .int (mi 24)) E hw1 inX12 0 24 q_1423 rfl rfl (by decide) rfl rfl dX12_readUnit_1 ?_
  refine lv_iconst (pc := 4) (v := 2) E.1 E.2.1 dX12_readUnit_4 (by decide +kernel) ?_
  refine lv_icmp_ne (pc := 5) (tgt := 23) E.1 E.2.1 dX12_readUnit_5 (by decide) (fun c_4 => ?_) (fun c_4 => ?_)
  · skip
    have hc_4 := neE (a := (mi 24).toInt) (b := 2) rfl (by decide +kernel) c_4
    refine lv_iconst (pc := 23) (v := 0) E.1 E.2.1 dX12_readUnit_23 (by decide +kernel) ?_
    refine lv_istore_n (pc := 24) (lv' := [(1, .int 0), (0, .ref M)]) E.1 E.2.1 dX12_readUnit_24 rfl hl3 (by decide) rfl (fun ls hl5 => ?_)
    refine lv_iload_n (pc := 25) E.1 E.2.1 dX12_readUnit_25 rfl (lv_at hl5 0 rfl) ?_
    refine lv_if_ne (pc := 26) (tgt := 43) E.1 E.2.1 dX12_readUnit_26 (by decide) (fun c_6 => absurd (meqE (a := 0) (b := 0) (by decide +kernel) (by decide +kernel) (by omega)) c_6) (fun _ => ?_)
    refine lv_aload_n (pc := 29) E.1 E.2.1 dX12_readUnit_29 rfl (lv_at hl5 1 rfl) ?_
    refine x_get (pc := 30) (T := TX12) (N := 70) (ci := 12) (v := .int (mi 24)) E hw1 inX12 0 24 q_1423 rfl rfl (by decide) rfl rfl dX12_readUnit_30 ?_
    refine lv_iconst (pc := 33) (v := 3) E.1 E.2.1 dX12_readUnit_33 (by decide +kernel) ?_
    refine lv_icmp_eq (pc := 34) (tgt := 43) E.1 E.2.1 dX12_readUnit_34 (by decide) (fun c_7 => ?_) (fun c_7 => ?_)
    · skip
      have hc_7 := eqE (a := (mi 24).toInt) (b := 3) rfl (by decide +kernel) c_7
      refine lv_aload_n (pc := 43) E.1 E.2.1 dX12_readUnit_43 rfl (lv_at hl5 1 rfl) ?_
      refine lv_iload_n (pc := 44) E.1 E.2.1 dX12_readUnit_44 rfl (lv_at hl5 0 rfl) ?_
      refine lv_if_eq (pc := 45) (tgt := 52) E.1 E.2.1 dX12_readUnit_45 (by decide) (fun _ => ?_) (fun c_8 => absurd (meqE (a := 0) (b := 0) (by decide +kernel) (by decide +kernel) (by omega)) c_8)
      refine lv_iconst (pc := 52) (v := 0) E.1 E.2.1 dX12_readUnit_52 (by decide +kernel) ?_
      refine lv_iload_n (pc := 53) E.1 E.2.1 dX12_readUnit_53 rfl (lv_at hl5 0 rfl) ?_
      refine lv_if_eq (pc := 54) (tgt := 67) E.1 E.2.1 dX12_readUnit_54 (by decide) (fun _ => ?_) (fun c_9 => absurd (meqE (a := 0) (b := 0) (by decide +kernel) (by decide +kernel) (by omega)) c_9)
      refine lv_aload_n (pc := 67) E.1 E.2.1 dX12_readUnit_67 rfl (lv_at hl5 1 rfl) ?_
      refine x_get (pc := 68) (T := TX12) (N := 70) (ci := 12) (v := .int (mi 25)) E hw1 inX12 0 25 q_1424 rfl rfl (by decide) rfl rfl dX12_readUnit_68 ?_
      refine cm_v (pc := 71) hw1 (rn_M (As := [.int 0, .int (mi 25)]) (rest := []) E hw1 (s_emits2 l D cI cJ _ M mr mi mf mg 0 (mi 25) (by show 0 ≤ (mi 34).toInt ∧ (mi 34).toInt ≤ 399; omega) (show LW 0 0 (mf 31) (mf 32) (mf 28) (mf 29) (mf 30) ((mf 27) 0).toInt 400 from lf_law0) (show LW 16 400 (mf 31) (mf 32) (mf 28) (mf 29) (mf 30) ((mf 27) 1).toInt 400 from lf_law1)) (gdV q_1786 q_1788 q_82 q_162 q_1789) hdV_X12_emits ⟨rfl, rfl⟩ ⟨(Nat.le_of_ble_eq_true rfl), (Nat.le_of_ble_eq_true rfl)⟩ ⟨(Nat.le_of_ble_eq_true rfl), (Nat.le_of_ble_eq_true rfl)⟩ 12 rfl rfl rfl rfl hl5.1 rfl (Nat.le_of_ble_eq_true rfl) dX12_readUnit_71) (fun u_10 H1 locs hp hw12 => ?_)
      obtain ⟨gop_13, garg_14, ncodes_15⟩ := u_10
      generalize H1 = H at hw12 ⊢
      have hw16 : WD D A s.heap (MW cI cJ M mr (upd mi 34 ncodes_15) (va_up (va_up mf 31 gop_13) 32 garg_14) mg) H locs := hw12
      obtain ⟨hp_17, hp_18, hp_19, hp_20⟩ := hp
      have hp_17 : ncodes_15.toInt = (mi 34).toInt + 1 := hp_17
      have hp_18 : LW 0 0 gop_13 garg_14 (mf 28) (mf 29) (mf 30) ((mf 27) 0).toInt 400 := hp_18
      have hp_19 : LW 16 400 gop_13 garg_14 (mf 28) (mf 29) (mf 30) ((mf 27) 1).toInt 400 := hp_19
      have hp_20 : EM (mf 31) (mf 32) gop_13 garg_14 (800 + ((mi 34).toInt).toNat) (0 : Int32) (mi 25) := hp_20
      refine lv_aload_n (pc := 74) E.1 E.2.1 dX12_readUnit_74 rfl (lv_at hl5 1 rfl) ?_
      refine cm_v (pc := 75) hw16 (rn_M (As := []) (rest := []) E hw16 (s_reads l D cI cJ _ M mr (upd mi 34 ncodes_15) (va_up (va_up mf 31 gop_13) 32 garg_14) mg (by show 0 ≤ (mi 22).toInt; omega) h2 h3 h7) (gdV q_1666 q_1668 q_52 q_162 q_1669) hdV_X12_reads ⟨rfl, rfl⟩ ⟨(Nat.le_of_ble_eq_true rfl), (Nat.le_of_ble_eq_true rfl)⟩ ⟨(Nat.le_of_ble_eq_true rfl), (Nat.le_of_ble_eq_true rfl)⟩ 12 rfl rfl rfl rfl hl5.1 rfl (Nat.le_of_ble_eq_true rfl) dX12_readUnit_75) (fun u_21 H1 locs hp hw23 => ?_)
      obtain ⟨nspot_24, nfrom_25, ntoken_26, nvalue_27⟩ := u_21
      generalize H1 = H at hw23 ⊢
      have hw28 : WD D A s.heap (MW cI cJ M mr (upd (upd (upd (upd (upd mi 22 nspot_24) 23 nfrom_25) 24 ntoken_26) 25 nvalue_27) 34 ncodes_15) (va_up (va_up mf 31 gop_13) 32 garg_14) mg) H locs := hw23
      obtain ⟨hp_29, hp_30, hp_31, hp_32, hp_33, hp_34, hp_35⟩ := hp
      have hp_29 : 0 ≤ nfrom_25.toInt := hp_29
      have hp_30 : nfrom_25.toInt ≤ nspot_24.toInt := hp_30
      have hp_31 : nspot_24.toInt ≤ (mi 21).toInt := hp_31
      have hp_32 : 0 ≤ ntoken_26.toInt := hp_32
      have hp_33 : ntoken_26.toInt ≤ 4 := hp_33
      have hp_34 : ntoken_26.toInt ≤ 4 * nspot_24.toInt - 4 * nfrom_25.toInt := hp_34
      have hp_35 : (mi 22).toInt ≤ nfrom_25.toInt := hp_35
      refine lv_iconst (pc := 78) (v := 0) E.1 E.2.1 dX12_readUnit_78 (by decide +kernel) ?_
      exact em_i (w1 := (fun (u : Int32 × Int32 × Int32 × Int32 × (Nat → Int32) × (Nat → Int32) × Int32 × Int32 × Int32) => (MW cI cJ M mr (upd (upd (upd (upd (upd (upd (upd mi 22 u.1) 23 u.2.1) 24 u.2.2.1) 25 u.2.2.2.1) 34 u.2.2.2.2.2.2.1) 38 u.2.2.2.2.2.2.2.1) 39 u.2.2.2.2.2.2.2.2) (va_up (va_up mf 31 u.2.2.2.2.1) 32 u.2.2.2.2.2.1) mg))) E hr hlk (nspot_24, nfrom_25, ntoken_26, nvalue_27, gop_13, garg_14, ncodes_15, (mi 38), (mi 39)) hw28 ⟨hp_29, hp_30, hp_31, hp_32, hp_33, hp_34, (by show 0 ≤ ncodes_15.toInt; have k_0 : (0 : Int32).toInt = 0 := (by decide +kernel); omega), (by show ncodes_15.toInt ≤ nfrom_25.toInt; have k_0 : (0 : Int32).toInt = 0 := (by decide +kernel); omega), hp_18, hp_19, (fun _ => (show TX (mf 31) (mf 32) (800 + ((mi 34).toInt).toNat) gop_13 garg_14 (800 + (ncodes_15.toInt).toNat) from (TX_num hp_20 (Or.inl rfl) (by omega)))), (fun _ => (show ((mi 24).toInt = 3 → gop_13 (800 + ((mi 34).toInt).toNat) = 0 ∧ (garg_14 (800 + ((mi 34).toInt).toNat)).toInt = (mi 25).toInt) from (fun _ => ⟨hp_20.1, congrArg Int32.toInt hp_20.2.1⟩))), (Or.inr (⟨rfl, (by show (mi 23).toInt - (mi 34).toInt ≤ nfrom_25.toInt - ncodes_15.toInt; omega), (by show (mi 23).toInt + 1 ≤ nfrom_25.toInt; omega), hp_17⟩))⟩ (Nat.le_of_ble_eq_true rfl) (Nat.le_of_ble_eq_true rfl) dX12_readUnit_79
    · skip
      have hc_7 := neE (a := (mi 24).toInt) (b := 3) rfl (by decide +kernel) c_7
      refine lv_aload_n (pc := 37) E.1 E.2.1 dX12_readUnit_37 rfl (lv_at hl5 1 rfl) ?_
      refine lv_iconst (pc := 38) (v := 1) E.1 E.2.1 dX12_readUnit_38 (by decide +kernel) ?_
      refine cm_i (pc := 39) hw1 (rn_M (As := [.int 1]) (rest := []) E hw1 (s_errs2 l D cI cJ _ M mr mi mf mg 1) (gdV q_1698 q_1700 q_60 q_162 q_1701) hdV_X12_errs ⟨rfl, rfl⟩ ⟨(Nat.le_of_ble_eq_true rfl), (Nat.le_of_ble_eq_true rfl)⟩ ⟨(Nat.le_of_ble_eq_true rfl), (Nat.le_of_ble_eq_true rfl)⟩ 12 rfl rfl rfl rfl hl5.1 rfl (Nat.le_of_ble_eq_true rfl) dX12_readUnit_39) (fun r_37 u_36 H1 locs hp hw38 => ?_)
      obtain ⟨nreadFault_39, nreadPlace_40⟩ := u_36
      generalize H1 = H at hw38 ⊢
      have hw41 : WD D A s.heap (MW cI cJ M mr (upd (upd mi 38 nreadFault_39) 39 nreadPlace_40) mf mg) H locs := hw38
      have hp_42 := hp
      rcases hp_42 with rfl
      · skip
        exact em_i (w1 := (fun (u : Int32 × Int32 × Int32 × Int32 × (Nat → Int32) × (Nat → Int32) × Int32 × Int32 × Int32) => (MW cI cJ M mr (upd (upd (upd (upd (upd (upd (upd mi 22 u.1) 23 u.2.1) 24 u.2.2.1) 25 u.2.2.2.1) 34 u.2.2.2.2.2.2.1) 38 u.2.2.2.2.2.2.2.1) 39 u.2.2.2.2.2.2.2.2) (va_up (va_up mf 31 u.2.2.2.2.1) 32 u.2.2.2.2.2.1) mg))) E hr hlk ((mi 22), (mi 23), (mi 24), (mi 25), (mf 31), (mf 32), (mi 34), nreadFault_39, nreadPlace_40) hw41 ⟨h0, h1, h2, h4, h5, h6, h8, h9, lf_law0, lf_law1, (fun h => absurd h (by decide +kernel)), (fun h => absurd h (by decide +kernel)), (Or.inl rfl)⟩ (Nat.le_of_ble_eq_true rfl) (Nat.le_of_ble_eq_true rfl) dX12_readUnit_42
  · skip
    have hc_4 := eqE (a := (mi 24).toInt) (b := 2) rfl (by decide +kernel) c_4
    refine lv_aload_n (pc := 8) E.1 E.2.1 dX12_readUnit_8 rfl (lv_at hl3 0 rfl) ?_
    refine lv_aload_n (pc := 9) E.1 E.2.1 dX12_readUnit_9 rfl (lv_at hl3 0 rfl) ?_
    refine x_get (pc := 10) (T := TX12) (N := 70) (ci := 12) (v := .int (mi 25)) E hw1 inX12 0 25 q_1424 rfl rfl (by decide) rfl rfl dX12_readUnit_10 ?_
    refine cm_i (pc := 13) hw1 (rn_M (As := [.int (mi 25)]) (rest := []) E hw1 (s_canAsk l D cI cJ _ M mr mi mf mg (mi 25)) (gdV q_1782 q_1784 q_81 q_162 q_1785) hdV_X12_canAsk ⟨rfl, rfl⟩ ⟨(Nat.le_of_ble_eq_true rfl), (Nat.le_of_ble_eq_true rfl)⟩ ⟨(Nat.le_of_ble_eq_true rfl), (Nat.le_of_ble_eq_true rfl)⟩ 12 rfl rfl rfl rfl hl3.1 rfl (Nat.le_of_ble_eq_true rfl) dX12_readUnit_13) (fun r_44 u_43 H1 locs hp hw45 => ?_)
    generalize H1 = H at hw45 ⊢
    have hw46 : WD D A s.heap (MW cI cJ M mr mi mf mg) H locs := hw45
    have hp_47 := hp
    rcases hp_47 with ⟨rfl, ha_48, ha_49⟩ | rfl
    · skip
      have ha_48 : 6 ≤ (mi 25).toInt := ha_48
      have ha_49 : (mi 25).toInt ≤ 15 := ha_49
      refine lv_if_eq (pc := 16) (tgt := 23) E.1 E.2.1 dX12_readUnit_16 (by decide) (fun c_50 => absurd c_50 (mneE (a := 1) (b := 0) (by decide +kernel) (by decide +kernel) (by omega))) (fun _ => ?_)
      refine lv_iconst (pc := 19) (v := 1) E.1 E.2.1 dX12_readUnit_19 (by decide +kernel) ?_
      refine lv_goto (pc := 20) (tgt := 24) E.1 E.2.1 dX12_readUnit_20 (by decide) ?_
      refine lv_istore_n (pc := 24) (lv' := [(1, .int 1), (0, .ref M)]) E.1 E.2.1 dX12_readUnit_24 rfl hl3 (by decide) rfl (fun ls hl51 => ?_)
      refine lv_iload_n (pc := 25) E.1 E.2.1 dX12_readUnit_25 rfl (lv_at hl51 0 rfl) ?_
      refine lv_if_ne (pc := 26) (tgt := 43) E.1 E.2.1 dX12_readUnit_26 (by decide) (fun _ => ?_) (fun c_52 => absurd c_52 (mneE (a := 1) (b := 0) (by decide +kernel) (by decide +kernel) (by omega)))
      refine lv_aload_n (pc := 43) E.1 E.2.1 dX12_readUnit_43 rfl (lv_at hl51 1 rfl) ?_
      refine lv_iload_n (pc := 44) E.1 E.2.1 dX12_readUnit_44 rfl (lv_at hl51 0 rfl) ?_
      refine lv_if_eq (pc := 45) (tgt := 52) E.1 E.2.1 dX12_readUnit_45 (by decide) (fun c_53 => absurd c_53 (mneE (a := 1) (b := 0) (by decide +kernel) (by decide +kernel) (by omega))) (fun _ => ?_)
      refine lv_iconst (pc := 48) (v := 1) E.1 E.2.1 dX12_readUnit_48 (by decide +kernel) ?_
      refine lv_goto (pc := 49) (tgt := 53) E.1 E.2.1 dX12_readUnit_49 (by decide) ?_
      refine lv_iload_n (pc := 53) E.1 E.2.1 dX12_readUnit_53 rfl (lv_at hl51 0 rfl) ?_
      refine lv_if_eq (pc := 54) (tgt := 67) E.1 E.2.1 dX12_readUnit_54 (by decide) (fun c_54 => absurd c_54 (mneE (a := 1) (b := 0) (by decide +kernel) (by decide +kernel) (by omega))) (fun _ => ?_)
      refine lv_aload_n (pc := 57) E.1 E.2.1 dX12_readUnit_57 rfl (lv_at hl51 1 rfl) ?_
      refine x_get (pc := 58) (T := TX12) (N := 70) (ci := 12) (v := .int (mi 25)) E hw46 inX12 0 25 q_1424 rfl rfl (by decide) rfl rfl dX12_readUnit_58 ?_
      refine lv_bipush (pc := 61) (v := 6) E.1 E.2.1 dX12_readUnit_61 (by decide +kernel) ?_
      refine lv_isub (pc := 63) E.1 E.2.1 dX12_readUnit_63 ?_
      refine lv_topi (fun v_55 ev_55 => ?_)
      have hv_55 : v_55.toInt = (mi 25).toInt - 6 := by rw [ev_55]; exact subE rfl (by decide +kernel) (by omega)
      refine lv_goto (pc := 64) (tgt := 71) E.1 E.2.1 dX12_readUnit_64 (by decide) ?_
      refine cm_v (pc := 71) hw46 (rn_M (As := [.int 1, .int v_55]) (rest := []) E hw46 (s_emits2 l D cI cJ _ M mr mi mf mg 1 v_55 (by show 0 ≤ (mi 34).toInt ∧ (mi 34).toInt ≤ 399; omega) (show LW 0 0 (mf 31) (mf 32) (mf 28) (mf 29) (mf 30) ((mf 27) 0).toInt 400 from lf_law0) (show LW 16 400 (mf 31) (mf 32) (mf 28) (mf 29) (mf 30) ((mf 27) 1).toInt 400 from lf_law1)) (gdV q_1786 q_1788 q_82 q_162 q_1789) hdV_X12_emits ⟨rfl, rfl⟩ ⟨(Nat.le_of_ble_eq_true rfl), (Nat.le_of_ble_eq_true rfl)⟩ ⟨(Nat.le_of_ble_eq_true rfl), (Nat.le_of_ble_eq_true rfl)⟩ 12 rfl rfl rfl rfl hl51.1 rfl (Nat.le_of_ble_eq_true rfl) dX12_readUnit_71) (fun u_56 H1 locs hp hw58 => ?_)
      obtain ⟨gop_59, garg_60, ncodes_61⟩ := u_56
      generalize H1 = H at hw58 ⊢
      have hw62 : WD D A s.heap (MW cI cJ M mr (upd mi 34 ncodes_61) (va_up (va_up mf 31 gop_59) 32 garg_60) mg) H locs := hw58
      obtain ⟨hp_63, hp_64, hp_65, hp_66⟩ := hp
      have hp_63 : ncodes_61.toInt = (mi 34).toInt + 1 := hp_63
      have hp_64 : LW 0 0 gop_59 garg_60 (mf 28) (mf 29) (mf 30) ((mf 27) 0).toInt 400 := hp_64
      have hp_65 : LW 16 400 gop_59 garg_60 (mf 28) (mf 29) (mf 30) ((mf 27) 1).toInt 400 := hp_65
      have hp_66 : EM (mf 31) (mf 32) gop_59 garg_60 (800 + ((mi 34).toInt).toNat) (1 : Int32) v_55 := hp_66
      refine lv_aload_n (pc := 74) E.1 E.2.1 dX12_readUnit_74 rfl (lv_at hl51 1 rfl) ?_
      refine cm_v (pc := 75) hw62 (rn_M (As := []) (rest := []) E hw62 (s_reads l D cI cJ _ M mr (upd mi 34 ncodes_61) (va_up (va_up mf 31 gop_59) 32 garg_60) mg (by show 0 ≤ (mi 22).toInt; omega) h2 h3 h7) (gdV q_1666 q_1668 q_52 q_162 q_1669) hdV_X12_reads ⟨rfl, rfl⟩ ⟨(Nat.le_of_ble_eq_true rfl), (Nat.le_of_ble_eq_true rfl)⟩ ⟨(Nat.le_of_ble_eq_true rfl), (Nat.le_of_ble_eq_true rfl)⟩ 12 rfl rfl rfl rfl hl51.1 rfl (Nat.le_of_ble_eq_true rfl) dX12_readUnit_75) (fun u_67 H1 locs hp hw69 => ?_)
      obtain ⟨nspot_70, nfrom_71, ntoken_72, nvalue_73⟩ := u_67
      generalize H1 = H at hw69 ⊢
      have hw74 : WD D A s.heap (MW cI cJ M mr (upd (upd (upd (upd (upd mi 22 nspot_70) 23 nfrom_71) 24 ntoken_72) 25 nvalue_73) 34 ncodes_61) (va_up (va_up mf 31 gop_59) 32 garg_60) mg) H locs := hw69
      obtain ⟨hp_75, hp_76, hp_77, hp_78, hp_79, hp_80, hp_81⟩ := hp
      have hp_75 : 0 ≤ nfrom_71.toInt := hp_75
      have hp_76 : nfrom_71.toInt ≤ nspot_70.toInt := hp_76
      have hp_77 : nspot_70.toInt ≤ (mi 21).toInt := hp_77
      have hp_78 : 0 ≤ ntoken_72.toInt := hp_78
      have hp_79 : ntoken_72.toInt ≤ 4 := hp_79
      have hp_80 : ntoken_72.toInt ≤ 4 * nspot_70.toInt - 4 * nfrom_71.toInt := hp_80
      have hp_81 : (mi 22).toInt ≤ nfrom_71.toInt := hp_81
      refine lv_iconst (pc := 78) (v := 0) E.1 E.2.1 dX12_readUnit_78 (by decide +kernel) ?_
      exact em_i (w1 := (fun (u : Int32 × Int32 × Int32 × Int32 × (Nat → Int32) × (Nat → Int32) × Int32 × Int32 × Int32) => (MW cI cJ M mr (upd (upd (upd (upd (upd (upd (upd mi 22 u.1) 23 u.2.1) 24 u.2.2.1) 25 u.2.2.2.1) 34 u.2.2.2.2.2.2.1) 38 u.2.2.2.2.2.2.2.1) 39 u.2.2.2.2.2.2.2.2) (va_up (va_up mf 31 u.2.2.2.2.1) 32 u.2.2.2.2.2.1) mg))) E hr hlk (nspot_70, nfrom_71, ntoken_72, nvalue_73, gop_59, garg_60, ncodes_61, (mi 38), (mi 39)) hw74 ⟨hp_75, hp_76, hp_77, hp_78, hp_79, hp_80, (by show 0 ≤ ncodes_61.toInt; have k_0 : (0 : Int32).toInt = 0 := (by decide +kernel); omega), (by show ncodes_61.toInt ≤ nfrom_71.toInt; have k_0 : (0 : Int32).toInt = 0 := (by decide +kernel); omega), hp_64, hp_65, (fun _ => (show TX (mf 31) (mf 32) (800 + ((mi 34).toInt).toNat) gop_59 garg_60 (800 + (ncodes_61.toInt).toNat) from (TX_num hp_66 (Or.inr ⟨rfl, by omega, by omega⟩) (by omega)))), (fun _ => (show ((mi 24).toInt = 3 → gop_59 (800 + ((mi 34).toInt).toNat) = 0 ∧ (garg_60 (800 + ((mi 34).toInt).toNat)).toInt = (mi 25).toInt) from (fun h => absurd h (by omega)))), (Or.inr (⟨rfl, (by show (mi 23).toInt - (mi 34).toInt ≤ nfrom_71.toInt - ncodes_61.toInt; omega), (by show (mi 23).toInt + 1 ≤ nfrom_71.toInt; omega), hp_63⟩))⟩ (Nat.le_of_ble_eq_true rfl) (Nat.le_of_ble_eq_true rfl) dX12_readUnit_79
    · skip
      refine lv_if_eq (pc := 16) (tgt := 23) E.1 E.2.1 dX12_readUnit_16 (by decide) (fun _ => ?_) (fun c_82 => absurd (meqE (a := 0) (b := 0) (by decide +kernel) (by decide +kernel) (by omega)) c_82)
      refine lv_iconst (pc := 23) (v := 0) E.1 E.2.1 dX12_readUnit_23 (by decide +kernel) ?_
      refine lv_istore_n (pc := 24) (lv' := [(1, .int 0), (0, .ref M)]) E.1 E.2.1 dX12_readUnit_24 rfl hl3 (by decide) rfl (fun ls hl83 => ?_)
      refine lv_iload_n (pc := 25) E.1 E.2.1 dX12_readUnit_25 rfl (lv_at hl83 0 rfl) ?_
      refine lv_if_ne (pc := 26) (tgt := 43) E.1 E.2.1 dX12_readUnit_26 (by decide) (fun c_84 => absurd (meqE (a := 0) (b := 0) (by decide +kernel) (by decide +kernel) (by omega)) c_84) (fun _ => ?_)
      refine lv_aload_n (pc := 29) E.1 E.2.1 dX12_readUnit_29 rfl (lv_at hl83 1 rfl) ?_
      refine x_get (pc := 30) (T := TX12) (N := 70) (ci := 12) (v := .int (mi 24)) E hw46 inX12 0 24 q_1423 rfl rfl (by decide) rfl rfl dX12_readUnit_30 ?_
      refine lv_iconst (pc := 33) (v := 3) E.1 E.2.1 dX12_readUnit_33 (by decide +kernel) ?_
      refine lv_icmp_eq (pc := 34) (tgt := 43) E.1 E.2.1 dX12_readUnit_34 (by decide) (fun c_85 => absurd c_85 (mneE (a := (mi 24).toInt) (b := 3) rfl (by decide +kernel) (by omega))) (fun _ => ?_)
      refine lv_aload_n (pc := 37) E.1 E.2.1 dX12_readUnit_37 rfl (lv_at hl83 1 rfl) ?_
      refine lv_iconst (pc := 38) (v := 1) E.1 E.2.1 dX12_readUnit_38 (by decide +kernel) ?_
      refine cm_i (pc := 39) hw46 (rn_M (As := [.int 1]) (rest := []) E hw46 (s_errs2 l D cI cJ _ M mr mi mf mg 1) (gdV q_1698 q_1700 q_60 q_162 q_1701) hdV_X12_errs ⟨rfl, rfl⟩ ⟨(Nat.le_of_ble_eq_true rfl), (Nat.le_of_ble_eq_true rfl)⟩ ⟨(Nat.le_of_ble_eq_true rfl), (Nat.le_of_ble_eq_true rfl)⟩ 12 rfl rfl rfl rfl hl83.1 rfl (Nat.le_of_ble_eq_true rfl) dX12_readUnit_39) (fun r_87 u_86 H1 locs hp hw88 => ?_)
      obtain ⟨nreadFault_89, nreadPlace_90⟩ := u_86
      generalize H1 = H at hw88 ⊢
      have hw91 : WD D A s.heap (MW cI cJ M mr (upd (upd mi 38 nreadFault_89) 39 nreadPlace_90) mf mg) H locs := hw88
      have hp_92 := hp
      rcases hp_92 with rfl
      · skip
        exact em_i (w1 := (fun (u : Int32 × Int32 × Int32 × Int32 × (Nat → Int32) × (Nat → Int32) × Int32 × Int32 × Int32) => (MW cI cJ M mr (upd (upd (upd (upd (upd (upd (upd mi 22 u.1) 23 u.2.1) 24 u.2.2.1) 25 u.2.2.2.1) 34 u.2.2.2.2.2.2.1) 38 u.2.2.2.2.2.2.2.1) 39 u.2.2.2.2.2.2.2.2) (va_up (va_up mf 31 u.2.2.2.2.1) 32 u.2.2.2.2.2.1) mg))) E hr hlk ((mi 22), (mi 23), (mi 24), (mi 25), (mf 31), (mf 32), (mi 34), nreadFault_89, nreadPlace_90) hw91 ⟨h0, h1, h2, h4, h5, h6, h8, h9, lf_law0, lf_law1, (fun h => absurd h (by decide +kernel)), (fun h => absurd h (by decide +kernel)), (Or.inl rfl)⟩ (Nat.le_of_ble_eq_true rfl) (Nat.le_of_ble_eq_true rfl) dX12_readUnit_42

set_option maxHeartbeats 4000000 in
set_option maxRecDepth 100000 in
theorem s_readProduct (l : Launch) (D : va_G) (cI cJ : ClassId) (sz M : Nat) (mr : Nat → Nat) (mi : Nat → Int32) (mf : Nat → Nat → Int32) (mg : Nat → Nat → Int64)  (h0 : 0 ≤ (mi 23).toInt) (h1 : (mi 23).toInt ≤ (mi 22).toInt) (h2 : (mi 22).toInt ≤ (mi 21).toInt) (h3 : (mi 21).toInt ≤ 400) (h4 : 0 ≤ (mi 24).toInt) (h5 : (mi 24).toInt ≤ 4) (h6 : (mi 24).toInt ≤ 4 * (mi 22).toInt - 4 * (mi 23).toInt) (h7 : ((mf 26) 153).toInt = 32) (h8 : 0 ≤ (mi 34).toInt) (h9 : (mi 34).toInt ≤ (mi 23).toInt) (lf_law0 : LW 0 0 (mf 31) (mf 32) (mf 28) (mf 29) (mf 30) ((mf 27) 0).toInt 400) (lf_law1 : LW 16 400 (mf 31) (mf 32) (mf 28) (mf 29) (mf 30) ((mf 27) 1).toInt 400) : Met l yX12_readProduct (Cond.code yX12_readProduct cX12_readProduct 2 (some .int) :: GW) ({ frames := 5, cells := 0, slots := 0, locals := 126 } : Room) (va_Pc [.ref M] (PW D cI cJ sz (MW cI cJ M mr mi mf mg) xT)) (va_Qi (fun (r : Int32) (u : Int32 × Int32 × Int32 × Int32 × (Nat → Int32) × (Nat → Int32) × Int32 × Int32 × Int32) => (0 ≤ u.2.1.toInt) ∧ (u.2.1.toInt ≤ u.1.toInt) ∧ (u.1.toInt ≤ (mi 21).toInt) ∧ (0 ≤ u.2.2.1.toInt) ∧ (u.2.2.1.toInt ≤ 4) ∧ (u.2.2.1.toInt ≤ 4 * u.1.toInt - 4 * u.2.1.toInt) ∧ (0 ≤ u.2.2.2.2.2.2.1.toInt) ∧ (u.2.2.2.2.2.2.1.toInt ≤ u.2.1.toInt) ∧ (LW 0 0 u.2.2.2.2.1 u.2.2.2.2.2.1 (mf 28) (mf 29) (mf 30) ((mf 27) 0).toInt 400) ∧ (LW 16 400 u.2.2.2.2.1 u.2.2.2.2.2.1 (mf 28) (mf 29) (mf 30) ((mf 27) 1).toInt 400) ∧ (r = 0 → TX (mf 31) (mf 32) (800 + ((mi 34).toInt).toNat) u.2.2.2.2.1 u.2.2.2.2.2.1 (800 + (u.2.2.2.2.2.2.1.toInt).toNat)) ∧ ((r = (-1)) ∨ (r = 0 ∧ (mi 23).toInt - (mi 34).toInt ≤ u.2.1.toInt - u.2.2.2.2.2.2.1.toInt ∧ (mi 23).toInt + 1 ≤ u.2.1.toInt))) (fun u => QW D cI cJ (va_A (MW cI cJ M mr mi mf mg) sz) ((fun (u : Int32 × Int32 × Int32 × Int32 × (Nat → Int32) × (Nat → Int32) × Int32 × Int32 × Int32) => (MW cI cJ M mr (upd (upd (upd (upd (upd (upd (upd mi 22 u.1) 23 u.2.1) 24 u.2.2.1) 25 u.2.2.2.1) 34 u.2.2.2.2.2.2.1) 38 u.2.2.2.2.2.2.2.1) 39 u.2.2.2.2.2.2.2.2) (va_up (va_up mf 31 u.2.2.2.2.1) 32 u.2.2.2.2.2.1) mg)) u)) (va_A (MW cI cJ M mr mi mf mg) sz)) 0 0 (va_A (MW cI cJ M mr mi mf mg) sz) := by
  refine mk_met (y := yX12_readProduct) (bytes := cX12_readProduct) (maxL := 2) (avs := [.ref M]) (WS := (MW cI cJ M mr mi mf mg)) (Qf := fun A => va_Qi (fun (r : Int32) (u : Int32 × Int32 × Int32 × Int32 × (Nat → Int32) × (Nat → Int32) × Int32 × Int32 × Int32) => (0 ≤ u.2.1.toInt) ∧ (u.2.1.toInt ≤ u.1.toInt) ∧ (u.1.toInt ≤ (mi 21).toInt) ∧ (0 ≤ u.2.2.1.toInt) ∧ (u.2.2.1.toInt ≤ 4) ∧ (u.2.2.1.toInt ≤ 4 * u.1.toInt - 4 * u.2.1.toInt) ∧ (0 ≤ u.2.2.2.2.2.2.1.toInt) ∧ (u.2.2.2.2.2.2.1.toInt ≤ u.2.1.toInt) ∧ (LW 0 0 u.2.2.2.2.1 u.2.2.2.2.2.1 (mf 28) (mf 29) (mf 30) ((mf 27) 0).toInt 400) ∧ (LW 16 400 u.2.2.2.2.1 u.2.2.2.2.2.1 (mf 28) (mf 29) (mf 30) ((mf 27) 1).toInt 400) ∧ (r = 0 → TX (mf 31) (mf 32) (800 + ((mi 34).toInt).toNat) u.2.2.2.2.1 u.2.2.2.2.2.1 (800 + (u.2.2.2.2.2.2.1.toInt).toNat)) ∧ ((r = (-1)) ∨ (r = 0 ∧ (mi 23).toInt - (mi 34).toInt ≤ u.2.1.toInt - u.2.2.2.2.2.2.1.toInt ∧ (mi 23).toInt + 1 ≤ u.2.1.toInt))) (fun u => QW D cI cJ A ((fun (u : Int32 × Int32 × Int32 × Int32 × (Nat → Int32) × (Nat → Int32) × Int32 × Int32 × Int32) => (MW cI cJ M mr (upd (upd (upd (upd (upd (upd (upd mi 22 u.1) 23 u.2.1) 24 u.2.2.1) 25 u.2.2.2.1) 34 u.2.2.2.2.2.2.1) 38 u.2.2.2.2.2.2.2.1) 39 u.2.2.2.2.2.2.2.2) (va_up (va_up mf 31 u.2.2.2.2.1) 32 u.2.2.2.2.2.1) mg)) u)) A) (by decide) (Nat.le_of_ble_eq_true rfl) ?_
  intro p e s m below meth c A ls E hr hlk hnm hX hw1 hl2
  have hl3 : lv_has ls 2 [(0, .ref M)] := hl2
  refine lv_aload_n (pc := 0) E.1 E.2.1 dX12_readProduct_0 rfl (lv_at hl3 0 rfl) ?_
  refine cm_i (pc := 1) hw1 (rn_M (As := []) (rest := []) E hw1 (s_readUnit l D cI cJ _ M mr mi mf mg h0 h1 h2 h3 h4 h5 h6 h7 h8 h9 (show LW 0 0 (mf 31) (mf 32) (mf 28) (mf 29) (mf 30) ((mf 27) 0).toInt 400 from lf_law0) (show LW 16 400 (mf 31) (mf 32) (mf 28) (mf 29) (mf 30) ((mf 27) 1).toInt 400 from lf_law1)) (gdV q_1778 q_1780 q_80 q_162 q_1781) hdV_X12_readUnit ⟨rfl, rfl⟩ ⟨(Nat.le_of_ble_eq_true rfl), (Nat.le_of_ble_eq_true rfl)⟩ ⟨(Nat.le_of_ble_eq_true rfl), (Nat.le_of_ble_eq_true rfl)⟩ 12 rfl rfl rfl rfl hl3.1 rfl (Nat.le_of_ble_eq_true rfl) dX12_readProduct_1) (fun r_5 u_4 H1 locs hp hw6 => ?_)
  obtain ⟨nspot_7, nfrom_8, ntoken_9, nvalue_10, gop_11, garg_12, ncodes_13, nreadFault_14, nreadPlace_15⟩ := u_4
  generalize H1 = H at hw6 ⊢
  have hw16 : WD D A s.heap (MW cI cJ M mr (upd (upd (upd (upd (upd (upd (upd mi 22 nspot_7) 23 nfrom_8) 24 ntoken_9) 25 nvalue_10) 34 ncodes_13) 38 nreadFault_14) 39 nreadPlace_15) (va_up (va_up mf 31 gop_11) 32 garg_12) mg) H locs := hw6
  obtain ⟨hp_17, hp_18, hp_19, hp_20, hp_21, hp_22, hp_23, hp_24, hp_25, hp_26, hp_27, hp_28, hp_29⟩ := hp
  have hp_17 : 0 ≤ nfrom_8.toInt := hp_17
  have hp_18 : nfrom_8.toInt ≤ nspot_7.toInt := hp_18
  have hp_19 : nspot_7.toInt ≤ (mi 21).toInt := hp_19
  have hp_20 : 0 ≤ ntoken_9.toInt := hp_20
  have hp_21 : ntoken_9.toInt ≤ 4 := hp_21
  have hp_22 : ntoken_9.toInt ≤ 4 * nspot_7.toInt - 4 * nfrom_8.toInt := hp_22
  have hp_23 : 0 ≤ ncodes_13.toInt := hp_23
  have hp_24 : ncodes_13.toInt ≤ nfrom_8.toInt := hp_24
  have hp_25 : LW 0 0 gop_11 garg_12 (mf 28) (mf 29) (mf 30) ((mf 27) 0).toInt 400 := hp_25
  have hp_26 : LW 16 400 gop_11 garg_12 (mf 28) (mf 29) (mf 30) ((mf 27) 1).toInt 400 := hp_26
  have hp_27 : r_5 = 0 → TX (mf 31) (mf 32) (800 + ((mi 34).toInt).toNat) gop_11 garg_12 (800 + (ncodes_13.toInt).toNat) := hp_27
  have hp_28 : r_5 = 0 → ((mi 24).toInt = 3 → gop_11 (800 + ((mi 34).toInt).toNat) = 0 ∧ (garg_12 (800 + ((mi 34).toInt).toNat)).toInt = (mi 25).toInt) := hp_28
  rcases hp_29 with rfl | ⟨rfl, ha_30, ha_31, ha_32⟩
  · skip
    refine lv_iconst (pc := 4) (v := (-1)) E.1 E.2.1 dX12_readProduct_4 (by decide +kernel) ?_
    refine lv_icmp_ne (pc := 5) (tgt := 10) E.1 E.2.1 dX12_readProduct_5 (by decide) (fun c_33 => absurd (meqE (a := (-1)) (b := (-1)) (by decide +kernel) (by decide +kernel) (by omega)) c_33) (fun _ => ?_)
    refine lv_iconst (pc := 8) (v := (-1)) E.1 E.2.1 dX12_readProduct_8 (by decide +kernel) ?_
    exact em_i (w1 := (fun (u : Int32 × Int32 × Int32 × Int32 × (Nat → Int32) × (Nat → Int32) × Int32 × Int32 × Int32) => (MW cI cJ M mr (upd (upd (upd (upd (upd (upd (upd mi 22 u.1) 23 u.2.1) 24 u.2.2.1) 25 u.2.2.2.1) 34 u.2.2.2.2.2.2.1) 38 u.2.2.2.2.2.2.2.1) 39 u.2.2.2.2.2.2.2.2) (va_up (va_up mf 31 u.2.2.2.2.1) 32 u.2.2.2.2.2.1) mg))) E hr hlk (nspot_7, nfrom_8, ntoken_9, nvalue_10, gop_11, garg_12, ncodes_13, nreadFault_14, nreadPlace_15) hw16 ⟨hp_17, hp_18, hp_19, hp_20, hp_21, hp_22, hp_23, hp_24, hp_25, hp_26, (fun h => absurd h (by decide +kernel)), (Or.inl rfl)⟩ (Nat.le_of_ble_eq_true rfl) (Nat.le_of_ble_eq_true rfl) dX12_readProduct_9
  · skip
    have hp_27 := hp_27 rfl
    have hp_28 := hp_28 rfl
    have ha_30 : (mi 23).toInt - (mi 34).toInt ≤ nfrom_8.toInt - ncodes_13.toInt := ha_30
    have ha_31 : (mi 23).toInt + 1 ≤ nfrom_8.toInt := ha_31
    have ha_32 : ncodes_13.toInt = (mi 34).toInt + 1 := ha_32
    refine lv_iconst (pc := 4) (v := (-1)) E.1 E.2.1 dX12_readProduct_4 (by decide +kernel) ?_
    refine lv_icmp_ne (pc := 5) (tgt := 10) E.1 E.2.1 dX12_readProduct_5 (by decide) (fun _ => ?_) (fun c_34 => absurd c_34 (mneE (a := 0) (b := (-1)) (by decide +kernel) (by decide +kernel) (by omega)))
    have loop_35 : ∀ (k : Nat) (x_36 : Int32) (x_37 : Int32) (x_38 : Int32) (x_39 : Int32) (x_40 : Int32) (x_41 : Int32) (x_42 : Int32) (g_43 : Nat → Int32) (g_44 : Nat → Int32) (H : Heap) (locs : List Loc) (ls : Array Slot), (0 ≤ x_37.toInt) ∧ (x_37.toInt ≤ x_36.toInt) ∧ (x_36.toInt ≤ (mi 21).toInt) ∧ (0 ≤ x_38.toInt) ∧ (x_38.toInt ≤ 4) ∧ (x_38.toInt ≤ 4 * x_36.toInt - 4 * x_37.toInt) ∧ (0 ≤ x_40.toInt) ∧ (x_40.toInt ≤ x_37.toInt) ∧ ((mi 23).toInt - (mi 34).toInt ≤ x_37.toInt - x_40.toInt) ∧ ((mi 23).toInt + 1 ≤ x_37.toInt) ∧ (TX (mf 31) (mf 32) (800 + ((mi 34).toInt).toNat) g_43 g_44 (800 + (x_40.toInt).toNat)) ∧ (LW 0 0 g_43 g_44 (mf 28) (mf 29) (mf 30) ((mf 27) 0).toInt 400) ∧ (LW 16 400 g_43 g_44 (mf 28) (mf 29) (mf 30) ((mf 27) 1).toInt 400) → (mi 21).toInt - x_37.toInt < (k : Int) → WD D A s.heap (MW cI cJ M mr (upd (upd (upd (upd (upd (upd (upd mi 22 x_36) 23 x_37) 24 x_38) 25 x_39) 34 x_40) 38 x_41) 39 x_42) (va_up (va_up mf 31 g_43) 32 g_44) mg) H locs → lv_has ls 2 [(0, .ref M)] → W p l e ({ frames := 5, cells := 0, slots := 0, locals := 126 } : Room) s m ([.ref M] : List Value).toArray below meth c H locs 0 0 (MQ below (va_Qi (fun (r : Int32) (u : Int32 × Int32 × Int32 × Int32 × (Nat → Int32) × (Nat → Int32) × Int32 × Int32 × Int32) => (0 ≤ u.2.1.toInt) ∧ (u.2.1.toInt ≤ u.1.toInt) ∧ (u.1.toInt ≤ (mi 21).toInt) ∧ (0 ≤ u.2.2.1.toInt) ∧ (u.2.2.1.toInt ≤ 4) ∧ (u.2.2.1.toInt ≤ 4 * u.1.toInt - 4 * u.2.1.toInt) ∧ (0 ≤ u.2.2.2.2.2.2.1.toInt) ∧ (u.2.2.2.2.2.2.1.toInt ≤ u.2.1.toInt) ∧ (LW 0 0 u.2.2.2.2.1 u.2.2.2.2.2.1 (mf 28) (mf 29) (mf 30) ((mf 27) 0).toInt 400) ∧ (LW 16 400 u.2.2.2.2.1 u.2.2.2.2.2.1 (mf 28) (mf 29) (mf 30) ((mf 27) 1).toInt 400) ∧ (r = 0 → TX (mf 31) (mf 32) (800 + ((mi 34).toInt).toNat) u.2.2.2.2.1 u.2.2.2.2.2.1 (800 + (u.2.2.2.2.2.2.1.toInt).toNat)) ∧ ((r = (-1)) ∨ (r = 0 ∧ (mi 23).toInt - (mi 34).toInt ≤ u.2.1.toInt - u.2.2.2.2.2.2.1.toInt ∧ (mi 23).toInt + 1 ≤ u.2.1.toInt))) (fun u => QW D cI cJ A ((fun (u : Int32 × Int32 × Int32 × Int32 × (Nat → Int32) × (Nat → Int32) × Int32 × Int32 × Int32) => (MW cI cJ M mr (upd (upd (upd (upd (upd (upd (upd mi 22 u.1) 23 u.2.1) 24 u.2.2.1) 25 u.2.2.2.1) 34 u.2.2.2.2.2.2.1) 38 u.2.2.2.2.2.2.2.1) 39 u.2.2.2.2.2.2.2.2) (va_up (va_up mf 31 u.2.2.2.2.1) 32 u.2.2.2.2.2.1) mg)) u)) A) ([.ref M] : List Value).toArray s 0 0 A) (F0 m 10 ls []) := by
      intro k
      induction k with
      | zero =>
        intro x_36 x_37 x_38 x_39 x_40 x_41 x_42 g_43 g_44 _ _ _ hinv hm
        obtain ⟨hi_44_0, hi_44_1, hi_44_2, hi_44_3, hi_44_4, hi_44_5, hi_44_6, hi_44_7, hi_44_8, hi_44_9, hi_44_10, hi_44_11, hi_44_12⟩ := hinv
        exact absurd hm (by omega)
      | succ k ih_45 =>
        intro x_36 x_37 x_38 x_39 x_40 x_41 x_42 g_43 g_44 H locs ls hinv hm hw46 hl47
        obtain ⟨hi_44_0, hi_44_1, hi_44_2, hi_44_3, hi_44_4, hi_44_5, hi_44_6, hi_44_7, hi_44_8, hi_44_9, hi_44_10, hi_44_11, hi_44_12⟩ := hinv
        refine lv_aload_n (pc := 10) E.1 E.2.1 dX12_readProduct_10 rfl (lv_at hl47 0 rfl) ?_
        refine lv_bipush (pc := 11) (v := 42) E.1 E.2.1 dX12_readProduct_11 (by decide +kernel) ?_
        refine cm_i (pc := 13) hw46 (rn_M (As := [.int 42]) (rest := []) E hw46 (s_isSign2 l D cI cJ _ M mr (upd (upd (upd (upd (upd (upd (upd mi 22 x_36) 23 x_37) 24 x_38) 25 x_39) 34 x_40) 38 x_41) 39 x_42) (va_up (va_up mf 31 g_43) 32 g_44) mg 42) (gdV q_1718 q_1720 q_65 q_162 q_1721) hdV_X12_isSign ⟨rfl, rfl⟩ ⟨(Nat.le_of_ble_eq_true rfl), (Nat.le_of_ble_eq_true rfl)⟩ ⟨(Nat.le_of_ble_eq_true rfl), (Nat.le_of_ble_eq_true rfl)⟩ 12 rfl rfl rfl rfl hl47.1 rfl (Nat.le_of_ble_eq_true rfl) dX12_readProduct_13) (fun r_49 u_48 H1 locs hp hw50 => ?_)
        generalize H1 = H at hw50 ⊢
        have hw51 : WD D A s.heap (MW cI cJ M mr (upd (upd (upd (upd (upd (upd (upd mi 22 x_36) 23 x_37) 24 x_38) 25 x_39) 34 x_40) 38 x_41) 39 x_42) (va_up (va_up mf 31 g_43) 32 g_44) mg) H locs := hw50
        have hp_52 := hp
        rcases hp_52 with ⟨rfl, ha_53, ha_54⟩ | rfl
        · skip
          have ha_53 : x_38.toInt = 4 := ha_53
          have ha_54 : x_39.toInt = (42 : Int32).toInt := ha_54
          rw [show (42 : Int32).toInt = 42 from by decide +kernel] at ha_54
          refine lv_if_ne (pc := 16) (tgt := 28) E.1 E.2.1 dX12_readProduct_16 (by decide) (fun _ => ?_) (fun c_55 => absurd c_55 (mneE (a := 1) (b := 0) (by decide +kernel) (by decide +kernel) (by omega)))
          refine lv_aload_n (pc := 28) E.1 E.2.1 dX12_readProduct_28 rfl (lv_at hl47 0 rfl) ?_
          refine lv_bipush (pc := 29) (v := 42) E.1 E.2.1 dX12_readProduct_29 (by decide +kernel) ?_
          refine cm_i (pc := 31) hw51 (rn_M (As := [.int 42]) (rest := []) E hw51 (s_isSign2 l D cI cJ _ M mr (upd (upd (upd (upd (upd (upd (upd mi 22 x_36) 23 x_37) 24 x_38) 25 x_39) 34 x_40) 38 x_41) 39 x_42) (va_up (va_up mf 31 g_43) 32 g_44) mg 42) (gdV q_1718 q_1720 q_65 q_162 q_1721) hdV_X12_isSign ⟨rfl, rfl⟩ ⟨(Nat.le_of_ble_eq_true rfl), (Nat.le_of_ble_eq_true rfl)⟩ ⟨(Nat.le_of_ble_eq_true rfl), (Nat.le_of_ble_eq_true rfl)⟩ 12 rfl rfl rfl rfl hl47.1 rfl (Nat.le_of_ble_eq_true rfl) dX12_readProduct_31) (fun r_57 u_56 H1 locs hp hw58 => ?_)
          generalize H1 = H at hw58 ⊢
          have hw59 : WD D A s.heap (MW cI cJ M mr (upd (upd (upd (upd (upd (upd (upd mi 22 x_36) 23 x_37) 24 x_38) 25 x_39) 34 x_40) 38 x_41) 39 x_42) (va_up (va_up mf 31 g_43) 32 g_44) mg) H locs := hw58
          have hp_60 := hp
          rcases hp_60 with ⟨rfl, ha_61, ha_62⟩ | rfl
          · skip
            have ha_61 : x_38.toInt = 4 := ha_61
            have ha_62 : x_39.toInt = (42 : Int32).toInt := ha_62
            rw [show (42 : Int32).toInt = 42 from by decide +kernel] at ha_62
            refine lv_istore_n (pc := 34) (lv' := [(1, .int 1), (0, .ref M)]) E.1 E.2.1 dX12_readProduct_34 rfl hl47 (by decide) rfl (fun ls hl63 => ?_)
            refine lv_aload_n (pc := 35) E.1 E.2.1 dX12_readProduct_35 rfl (lv_at hl63 1 rfl) ?_
            refine cm_v (pc := 36) hw59 (rn_M (As := []) (rest := []) E hw59 (s_reads l D cI cJ _ M mr (upd (upd (upd (upd (upd (upd (upd mi 22 x_36) 23 x_37) 24 x_38) 25 x_39) 34 x_40) 38 x_41) 39 x_42) (va_up (va_up mf 31 g_43) 32 g_44) mg (by show 0 ≤ x_36.toInt; omega) hi_44_2 h3 h7) (gdV q_1666 q_1668 q_52 q_162 q_1669) hdV_X12_reads ⟨rfl, rfl⟩ ⟨(Nat.le_of_ble_eq_true rfl), (Nat.le_of_ble_eq_true rfl)⟩ ⟨(Nat.le_of_ble_eq_true rfl), (Nat.le_of_ble_eq_true rfl)⟩ 12 rfl rfl rfl rfl hl63.1 rfl (Nat.le_of_ble_eq_true rfl) dX12_readProduct_36) (fun u_64 H1 locs hp hw66 => ?_)
            obtain ⟨nspot_67, nfrom_68, ntoken_69, nvalue_70⟩ := u_64
            generalize H1 = H at hw66 ⊢
            have hw71 : WD D A s.heap (MW cI cJ M mr (upd (upd (upd (upd (upd (upd (upd mi 22 nspot_67) 23 nfrom_68) 24 ntoken_69) 25 nvalue_70) 34 x_40) 38 x_41) 39 x_42) (va_up (va_up mf 31 g_43) 32 g_44) mg) H locs := hw66
            obtain ⟨hp_72, hp_73, hp_74, hp_75, hp_76, hp_77, hp_78⟩ := hp
            have hp_72 : 0 ≤ nfrom_68.toInt := hp_72
            have hp_73 : nfrom_68.toInt ≤ nspot_67.toInt := hp_73
            have hp_74 : nspot_67.toInt ≤ (mi 21).toInt := hp_74
            have hp_75 : 0 ≤ ntoken_69.toInt := hp_75
            have hp_76 : ntoken_69.toInt ≤ 4 := hp_76
            have hp_77 : ntoken_69.toInt ≤ 4 * nspot_67.toInt - 4 * nfrom_68.toInt := hp_77
            have hp_78 : x_36.toInt ≤ nfrom_68.toInt := hp_78
            refine lv_iload_n (pc := 39) E.1 E.2.1 dX12_readProduct_39 rfl (lv_at hl63 0 rfl) ?_
            refine lv_if_ne (pc := 40) (tgt := 57) E.1 E.2.1 dX12_readProduct_40 (by decide) (fun _ => ?_) (fun c_79 => absurd c_79 (mneE (a := 1) (b := 0) (by decide +kernel) (by decide +kernel) (by omega)))
            refine lv_iload_n (pc := 57) E.1 E.2.1 dX12_readProduct_57 rfl (lv_at hl63 0 rfl) ?_
            refine lv_if_ne (pc := 58) (tgt := 74) E.1 E.2.1 dX12_readProduct_58 (by decide) (fun _ => ?_) (fun c_80 => absurd c_80 (mneE (a := 1) (b := 0) (by decide +kernel) (by decide +kernel) (by omega)))
            refine lv_aload_n (pc := 74) E.1 E.2.1 dX12_readProduct_74 rfl (lv_at hl63 1 rfl) ?_
            refine cm_i (pc := 75) hw71 (rn_M (As := []) (rest := []) E hw71 (s_readUnit l D cI cJ _ M mr (upd (upd (upd (upd (upd (upd (upd mi 22 nspot_67) 23 nfrom_68) 24 ntoken_69) 25 nvalue_70) 34 x_40) 38 x_41) 39 x_42) (va_up (va_up mf 31 g_43) 32 g_44) mg hp_72 hp_73 hp_74 h3 hp_75 hp_76 hp_77 h7 hi_44_6 (by show x_40.toInt ≤ nfrom_68.toInt; omega) (show LW 0 0 g_43 g_44 (mf 28) (mf 29) (mf 30) ((mf 27) 0).toInt 400 from hi_44_11) (show LW 16 400 g_43 g_44 (mf 28) (mf 29) (mf 30) ((mf 27) 1).toInt 400 from hi_44_12)) (gdV q_1778 q_1780 q_80 q_162 q_1781) hdV_X12_readUnit ⟨rfl, rfl⟩ ⟨(Nat.le_of_ble_eq_true rfl), (Nat.le_of_ble_eq_true rfl)⟩ ⟨(Nat.le_of_ble_eq_true rfl), (Nat.le_of_ble_eq_true rfl)⟩ 12 rfl rfl rfl rfl hl63.1 rfl (Nat.le_of_ble_eq_true rfl) dX12_readProduct_75) (fun r_82 u_81 H1 locs hp hw83 => ?_)
            obtain ⟨nspot_84, nfrom_85, ntoken_86, nvalue_87, gop_88, garg_89, ncodes_90, nreadFault_91, nreadPlace_92⟩ := u_81
            generalize H1 = H at hw83 ⊢
            have hw93 : WD D A s.heap (MW cI cJ M mr (upd (upd (upd (upd (upd (upd (upd mi 22 nspot_84) 23 nfrom_85) 24 ntoken_86) 25 nvalue_87) 34 ncodes_90) 38 nreadFault_91) 39 nreadPlace_92) (va_up (va_up mf 31 gop_88) 32 garg_89) mg) H locs := hw83
            obtain ⟨hp_94, hp_95, hp_96, hp_97, hp_98, hp_99, hp_100, hp_101, hp_102, hp_103, hp_104, hp_105, hp_106⟩ := hp
            have hp_94 : 0 ≤ nfrom_85.toInt := hp_94
            have hp_95 : nfrom_85.toInt ≤ nspot_84.toInt := hp_95
            have hp_96 : nspot_84.toInt ≤ (mi 21).toInt := hp_96
            have hp_97 : 0 ≤ ntoken_86.toInt := hp_97
            have hp_98 : ntoken_86.toInt ≤ 4 := hp_98
            have hp_99 : ntoken_86.toInt ≤ 4 * nspot_84.toInt - 4 * nfrom_85.toInt := hp_99
            have hp_100 : 0 ≤ ncodes_90.toInt := hp_100
            have hp_101 : ncodes_90.toInt ≤ nfrom_85.toInt := hp_101
            have hp_102 : LW 0 0 gop_88 garg_89 (mf 28) (mf 29) (mf 30) ((mf 27) 0).toInt 400 := hp_102
            have hp_103 : LW 16 400 gop_88 garg_89 (mf 28) (mf 29) (mf 30) ((mf 27) 1).toInt 400 := hp_103
            have hp_104 : r_82 = 0 → TX g_43 g_44 (800 + (x_40.toInt).toNat) gop_88 garg_89 (800 + (ncodes_90.toInt).toNat) := hp_104
            have hp_105 : r_82 = 0 → (ntoken_69.toInt = 3 → gop_88 (800 + (x_40.toInt).toNat) = 0 ∧ (garg_89 (800 + (x_40.toInt).toNat)).toInt = nvalue_70.toInt) := hp_105
            rcases hp_106 with rfl | ⟨rfl, ha_107, ha_108, ha_109⟩
            · skip
              refine lv_iconst (pc := 78) (v := (-1)) E.1 E.2.1 dX12_readProduct_78 (by decide +kernel) ?_
              refine lv_icmp_ne (pc := 79) (tgt := 84) E.1 E.2.1 dX12_readProduct_79 (by decide) (fun c_110 => absurd (meqE (a := (-1)) (b := (-1)) (by decide +kernel) (by decide +kernel) (by omega)) c_110) (fun _ => ?_)
              refine lv_iconst (pc := 82) (v := (-1)) E.1 E.2.1 dX12_readProduct_82 (by decide +kernel) ?_
              exact em_i (w1 := (fun (u : Int32 × Int32 × Int32 × Int32 × (Nat → Int32) × (Nat → Int32) × Int32 × Int32 × Int32) => (MW cI cJ M mr (upd (upd (upd (upd (upd (upd (upd mi 22 u.1) 23 u.2.1) 24 u.2.2.1) 25 u.2.2.2.1) 34 u.2.2.2.2.2.2.1) 38 u.2.2.2.2.2.2.2.1) 39 u.2.2.2.2.2.2.2.2) (va_up (va_up mf 31 u.2.2.2.2.1) 32 u.2.2.2.2.2.1) mg))) E hr hlk (nspot_84, nfrom_85, ntoken_86, nvalue_87, gop_88, garg_89, ncodes_90, nreadFault_91, nreadPlace_92) hw93 ⟨hp_94, hp_95, hp_96, hp_97, hp_98, hp_99, hp_100, hp_101, hp_102, hp_103, (fun h => absurd h (by decide +kernel)), (Or.inl rfl)⟩ (Nat.le_of_ble_eq_true rfl) (Nat.le_of_ble_eq_true rfl) dX12_readProduct_83
            · skip
              have hp_104 := hp_104 rfl
              have hp_105 := hp_105 rfl
              have ha_107 : nfrom_68.toInt - x_40.toInt ≤ nfrom_85.toInt - ncodes_90.toInt := ha_107
              have ha_108 : nfrom_68.toInt + 1 ≤ nfrom_85.toInt := ha_108
              have ha_109 : ncodes_90.toInt = x_40.toInt + 1 := ha_109
              refine lv_iconst (pc := 78) (v := (-1)) E.1 E.2.1 dX12_readProduct_78 (by decide +kernel) ?_
              refine lv_icmp_ne (pc := 79) (tgt := 84) E.1 E.2.1 dX12_readProduct_79 (by decide) (fun _ => ?_) (fun c_111 => absurd c_111 (mneE (a := 0) (b := (-1)) (by decide +kernel) (by decide +kernel) (by omega)))
              refine lv_aload_n (pc := 84) E.1 E.2.1 dX12_readProduct_84 rfl (lv_at hl63 1 rfl) ?_
              refine lv_iload_n (pc := 85) E.1 E.2.1 dX12_readProduct_85 rfl (lv_at hl63 0 rfl) ?_
              refine lv_if_eq (pc := 86) (tgt := 93) E.1 E.2.1 dX12_readProduct_86 (by decide) (fun c_112 => absurd c_112 (mneE (a := 1) (b := 0) (by decide +kernel) (by decide +kernel) (by omega))) (fun _ => ?_)
              refine lv_iconst (pc := 89) (v := 4) E.1 E.2.1 dX12_readProduct_89 (by decide +kernel) ?_
              refine lv_goto (pc := 90) (tgt := 94) E.1 E.2.1 dX12_readProduct_90 (by decide) ?_
              refine lv_iconst (pc := 94) (v := 0) E.1 E.2.1 dX12_readProduct_94 (by decide +kernel) ?_
              refine cm_v (pc := 95) hw93 (rn_M (As := [.int 4, .int 0]) (rest := []) E hw93 (s_emits2 l D cI cJ _ M mr (upd (upd (upd (upd (upd (upd (upd mi 22 nspot_84) 23 nfrom_85) 24 ntoken_86) 25 nvalue_87) 34 ncodes_90) 38 nreadFault_91) 39 nreadPlace_92) (va_up (va_up mf 31 gop_88) 32 garg_89) mg 4 0 (by show 0 ≤ ncodes_90.toInt ∧ ncodes_90.toInt ≤ 399; omega) (show LW 0 0 gop_88 garg_89 (mf 28) (mf 29) (mf 30) ((mf 27) 0).toInt 400 from hp_102) (show LW 16 400 gop_88 garg_89 (mf 28) (mf 29) (mf 30) ((mf 27) 1).toInt 400 from hp_103)) (gdV q_1786 q_1788 q_82 q_162 q_1789) hdV_X12_emits ⟨rfl, rfl⟩ ⟨(Nat.le_of_ble_eq_true rfl), (Nat.le_of_ble_eq_true rfl)⟩ ⟨(Nat.le_of_ble_eq_true rfl), (Nat.le_of_ble_eq_true rfl)⟩ 12 rfl rfl rfl rfl hl63.1 rfl (Nat.le_of_ble_eq_true rfl) dX12_readProduct_95) (fun u_113 H1 locs hp hw115 => ?_)
              obtain ⟨gop_116, garg_117, ncodes_118⟩ := u_113
              generalize H1 = H at hw115 ⊢
              have hw119 : WD D A s.heap (MW cI cJ M mr (upd (upd (upd (upd (upd (upd (upd mi 22 nspot_84) 23 nfrom_85) 24 ntoken_86) 25 nvalue_87) 34 ncodes_118) 38 nreadFault_91) 39 nreadPlace_92) (va_up (va_up mf 31 gop_116) 32 garg_117) mg) H locs := hw115
              obtain ⟨hp_120, hp_121, hp_122, hp_123⟩ := hp
              have hp_120 : ncodes_118.toInt = ncodes_90.toInt + 1 := hp_120
              have hp_121 : LW 0 0 gop_116 garg_117 (mf 28) (mf 29) (mf 30) ((mf 27) 0).toInt 400 := hp_121
              have hp_122 : LW 16 400 gop_116 garg_117 (mf 28) (mf 29) (mf 30) ((mf 27) 1).toInt 400 := hp_122
              have hp_123 : EM gop_88 garg_89 gop_116 garg_117 (800 + (ncodes_90.toInt).toNat) (4 : Int32) (0 : Int32) := hp_123
              refine lv_goto (pc := 98) (tgt := 10) E.1 E.2.1 dX12_readProduct_98 (by decide) ?_
              exact ih_45 nspot_84 nfrom_85 ntoken_86 nvalue_87 ncodes_118 nreadFault_91 nreadPlace_92 gop_116 garg_117 _ _ _ ⟨hp_94, hp_95, hp_96, hp_97, hp_98, hp_99, (by show 0 ≤ ncodes_118.toInt; omega), (by show ncodes_118.toInt ≤ nfrom_85.toInt; omega), (by show (mi 23).toInt - (mi 34).toInt ≤ nfrom_85.toInt - ncodes_118.toInt; omega), (by show (mi 23).toInt + 1 ≤ nfrom_85.toInt; omega), (TX_two hi_44_10 hp_104 hp_123 ⟨by decide +kernel, by decide +kernel, by decide +kernel, fun h => absurd h (by decide +kernel)⟩ (by omega)), (show LW 0 0 gop_116 garg_117 (mf 28) (mf 29) (mf 30) ((mf 27) 0).toInt 400 from hp_121), (show LW 16 400 gop_116 garg_117 (mf 28) (mf 29) (mf 30) ((mf 27) 1).toInt 400 from hp_122)⟩ (by omega) hw119 (lv_sub hl63 [1] rfl)
          · skip
            refine lv_istore_n (pc := 34) (lv' := [(1, .int 0), (0, .ref M)]) E.1 E.2.1 dX12_readProduct_34 rfl hl47 (by decide) rfl (fun ls hl124 => ?_)
            refine lv_aload_n (pc := 35) E.1 E.2.1 dX12_readProduct_35 rfl (lv_at hl124 1 rfl) ?_
            refine cm_v (pc := 36) hw59 (rn_M (As := []) (rest := []) E hw59 (s_reads l D cI cJ _ M mr (upd (upd (upd (upd (upd (upd (upd mi 22 x_36) 23 x_37) 24 x_38) 25 x_39) 34 x_40) 38 x_41) 39 x_42) (va_up (va_up mf 31 g_43) 32 g_44) mg (by show 0 ≤ x_36.toInt; omega) hi_44_2 h3 h7) (gdV q_1666 q_1668 q_52 q_162 q_1669) hdV_X12_reads ⟨rfl, rfl⟩ ⟨(Nat.le_of_ble_eq_true rfl), (Nat.le_of_ble_eq_true rfl)⟩ ⟨(Nat.le_of_ble_eq_true rfl), (Nat.le_of_ble_eq_true rfl)⟩ 12 rfl rfl rfl rfl hl124.1 rfl (Nat.le_of_ble_eq_true rfl) dX12_readProduct_36) (fun u_125 H1 locs hp hw127 => ?_)
            obtain ⟨nspot_128, nfrom_129, ntoken_130, nvalue_131⟩ := u_125
            generalize H1 = H at hw127 ⊢
            have hw132 : WD D A s.heap (MW cI cJ M mr (upd (upd (upd (upd (upd (upd (upd mi 22 nspot_128) 23 nfrom_129) 24 ntoken_130) 25 nvalue_131) 34 x_40) 38 x_41) 39 x_42) (va_up (va_up mf 31 g_43) 32 g_44) mg) H locs := hw127
            obtain ⟨hp_133, hp_134, hp_135, hp_136, hp_137, hp_138, hp_139⟩ := hp
            have hp_133 : 0 ≤ nfrom_129.toInt := hp_133
            have hp_134 : nfrom_129.toInt ≤ nspot_128.toInt := hp_134
            have hp_135 : nspot_128.toInt ≤ (mi 21).toInt := hp_135
            have hp_136 : 0 ≤ ntoken_130.toInt := hp_136
            have hp_137 : ntoken_130.toInt ≤ 4 := hp_137
            have hp_138 : ntoken_130.toInt ≤ 4 * nspot_128.toInt - 4 * nfrom_129.toInt := hp_138
            have hp_139 : x_36.toInt ≤ nfrom_129.toInt := hp_139
            refine lv_iload_n (pc := 39) E.1 E.2.1 dX12_readProduct_39 rfl (lv_at hl124 0 rfl) ?_
            refine lv_if_ne (pc := 40) (tgt := 57) E.1 E.2.1 dX12_readProduct_40 (by decide) (fun c_140 => absurd (meqE (a := 0) (b := 0) (by decide +kernel) (by decide +kernel) (by omega)) c_140) (fun _ => ?_)
            refine lv_aload_n (pc := 43) E.1 E.2.1 dX12_readProduct_43 rfl (lv_at hl124 1 rfl) ?_
            refine x_get (pc := 44) (T := TX12) (N := 70) (ci := 12) (v := .int ntoken_130) E hw132 inX12 0 24 q_1423 rfl rfl (by decide) rfl rfl dX12_readProduct_44 ?_
            refine lv_iconst (pc := 47) (v := 3) E.1 E.2.1 dX12_readProduct_47 (by decide +kernel) ?_
            refine lv_icmp_eq (pc := 48) (tgt := 57) E.1 E.2.1 dX12_readProduct_48 (by decide) (fun c_141 => ?_) (fun c_141 => ?_)
            · skip
              have hc_141 := eqE (a := ntoken_130.toInt) (b := 3) rfl (by decide +kernel) c_141
              refine lv_iload_n (pc := 57) E.1 E.2.1 dX12_readProduct_57 rfl (lv_at hl124 0 rfl) ?_
              refine lv_if_ne (pc := 58) (tgt := 74) E.1 E.2.1 dX12_readProduct_58 (by decide) (fun c_142 => absurd (meqE (a := 0) (b := 0) (by decide +kernel) (by decide +kernel) (by omega)) c_142) (fun _ => ?_)
              refine lv_aload_n (pc := 61) E.1 E.2.1 dX12_readProduct_61 rfl (lv_at hl124 1 rfl) ?_
              refine x_get (pc := 62) (T := TX12) (N := 70) (ci := 12) (v := .int nvalue_131) E hw132 inX12 0 25 q_1424 rfl rfl (by decide) rfl rfl dX12_readProduct_62 ?_
              refine lv_if_ne (pc := 65) (tgt := 74) E.1 E.2.1 dX12_readProduct_65 (by decide) (fun c_143 => ?_) (fun c_143 => ?_)
              · skip
                have hc_143 := neE (a := nvalue_131.toInt) (b := 0) rfl (by decide +kernel) c_143
                refine lv_aload_n (pc := 74) E.1 E.2.1 dX12_readProduct_74 rfl (lv_at hl124 1 rfl) ?_
                refine cm_i (pc := 75) hw132 (rn_M (As := []) (rest := []) E hw132 (s_readUnit l D cI cJ _ M mr (upd (upd (upd (upd (upd (upd (upd mi 22 nspot_128) 23 nfrom_129) 24 ntoken_130) 25 nvalue_131) 34 x_40) 38 x_41) 39 x_42) (va_up (va_up mf 31 g_43) 32 g_44) mg hp_133 hp_134 hp_135 h3 hp_136 hp_137 hp_138 h7 hi_44_6 (by show x_40.toInt ≤ nfrom_129.toInt; omega) (show LW 0 0 g_43 g_44 (mf 28) (mf 29) (mf 30) ((mf 27) 0).toInt 400 from hi_44_11) (show LW 16 400 g_43 g_44 (mf 28) (mf 29) (mf 30) ((mf 27) 1).toInt 400 from hi_44_12)) (gdV q_1778 q_1780 q_80 q_162 q_1781) hdV_X12_readUnit ⟨rfl, rfl⟩ ⟨(Nat.le_of_ble_eq_true rfl), (Nat.le_of_ble_eq_true rfl)⟩ ⟨(Nat.le_of_ble_eq_true rfl), (Nat.le_of_ble_eq_true rfl)⟩ 12 rfl rfl rfl rfl hl124.1 rfl (Nat.le_of_ble_eq_true rfl) dX12_readProduct_75) (fun r_145 u_144 H1 locs hp hw146 => ?_)
                obtain ⟨nspot_147, nfrom_148, ntoken_149, nvalue_150, gop_151, garg_152, ncodes_153, nreadFault_154, nreadPlace_155⟩ := u_144
                generalize H1 = H at hw146 ⊢
                have hw156 : WD D A s.heap (MW cI cJ M mr (upd (upd (upd (upd (upd (upd (upd mi 22 nspot_147) 23 nfrom_148) 24 ntoken_149) 25 nvalue_150) 34 ncodes_153) 38 nreadFault_154) 39 nreadPlace_155) (va_up (va_up mf 31 gop_151) 32 garg_152) mg) H locs := hw146
                obtain ⟨hp_157, hp_158, hp_159, hp_160, hp_161, hp_162, hp_163, hp_164, hp_165, hp_166, hp_167, hp_168, hp_169⟩ := hp
                have hp_157 : 0 ≤ nfrom_148.toInt := hp_157
                have hp_158 : nfrom_148.toInt ≤ nspot_147.toInt := hp_158
                have hp_159 : nspot_147.toInt ≤ (mi 21).toInt := hp_159
                have hp_160 : 0 ≤ ntoken_149.toInt := hp_160
                have hp_161 : ntoken_149.toInt ≤ 4 := hp_161
                have hp_162 : ntoken_149.toInt ≤ 4 * nspot_147.toInt - 4 * nfrom_148.toInt := hp_162
                have hp_163 : 0 ≤ ncodes_153.toInt := hp_163
                have hp_164 : ncodes_153.toInt ≤ nfrom_148.toInt := hp_164
                have hp_165 : LW 0 0 gop_151 garg_152 (mf 28) (mf 29) (mf 30) ((mf 27) 0).toInt 400 := hp_165
                have hp_166 : LW 16 400 gop_151 garg_152 (mf 28) (mf 29) (mf 30) ((mf 27) 1).toInt 400 := hp_166
                have hp_167 : r_145 = 0 → TX g_43 g_44 (800 + (x_40.toInt).toNat) gop_151 garg_152 (800 + (ncodes_153.toInt).toNat) := hp_167
                have hp_168 : r_145 = 0 → (ntoken_130.toInt = 3 → gop_151 (800 + (x_40.toInt).toNat) = 0 ∧ (garg_152 (800 + (x_40.toInt).toNat)).toInt = nvalue_131.toInt) := hp_168
                rcases hp_169 with rfl | ⟨rfl, ha_170, ha_171, ha_172⟩
                · skip
                  refine lv_iconst (pc := 78) (v := (-1)) E.1 E.2.1 dX12_readProduct_78 (by decide +kernel) ?_
                  refine lv_icmp_ne (pc := 79) (tgt := 84) E.1 E.2.1 dX12_readProduct_79 (by decide) (fun c_173 => absurd (meqE (a := (-1)) (b := (-1)) (by decide +kernel) (by decide +kernel) (by omega)) c_173) (fun _ => ?_)
                  refine lv_iconst (pc := 82) (v := (-1)) E.1 E.2.1 dX12_readProduct_82 (by decide +kernel) ?_
                  exact em_i (w1 := (fun (u : Int32 × Int32 × Int32 × Int32 × (Nat → Int32) × (Nat → Int32) × Int32 × Int32 × Int32) => (MW cI cJ M mr (upd (upd (upd (upd (upd (upd (upd mi 22 u.1) 23 u.2.1) 24 u.2.2.1) 25 u.2.2.2.1) 34 u.2.2.2.2.2.2.1) 38 u.2.2.2.2.2.2.2.1) 39 u.2.2.2.2.2.2.2.2) (va_up (va_up mf 31 u.2.2.2.2.1) 32 u.2.2.2.2.2.1) mg))) E hr hlk (nspot_147, nfrom_148, ntoken_149, nvalue_150, gop_151, garg_152, ncodes_153, nreadFault_154, nreadPlace_155) hw156 ⟨hp_157, hp_158, hp_159, hp_160, hp_161, hp_162, hp_163, hp_164, hp_165, hp_166, (fun h => absurd h (by decide +kernel)), (Or.inl rfl)⟩ (Nat.le_of_ble_eq_true rfl) (Nat.le_of_ble_eq_true rfl) dX12_readProduct_83
                · skip
                  have hp_167 := hp_167 rfl
                  have hp_168 := hp_168 rfl
                  have ha_170 : nfrom_129.toInt - x_40.toInt ≤ nfrom_148.toInt - ncodes_153.toInt := ha_170
                  have ha_171 : nfrom_129.toInt + 1 ≤ nfrom_148.toInt := ha_171
                  have ha_172 : ncodes_153.toInt = x_40.toInt + 1 := ha_172
                  refine lv_iconst (pc := 78) (v := (-1)) E.1 E.2.1 dX12_readProduct_78 (by decide +kernel) ?_
                  refine lv_icmp_ne (pc := 79) (tgt := 84) E.1 E.2.1 dX12_readProduct_79 (by decide) (fun _ => ?_) (fun c_174 => absurd c_174 (mneE (a := 0) (b := (-1)) (by decide +kernel) (by decide +kernel) (by omega)))
                  refine lv_aload_n (pc := 84) E.1 E.2.1 dX12_readProduct_84 rfl (lv_at hl124 1 rfl) ?_
                  refine lv_iload_n (pc := 85) E.1 E.2.1 dX12_readProduct_85 rfl (lv_at hl124 0 rfl) ?_
                  refine lv_if_eq (pc := 86) (tgt := 93) E.1 E.2.1 dX12_readProduct_86 (by decide) (fun _ => ?_) (fun c_175 => absurd (meqE (a := 0) (b := 0) (by decide +kernel) (by decide +kernel) (by omega)) c_175)
                  refine lv_iconst (pc := 93) (v := 5) E.1 E.2.1 dX12_readProduct_93 (by decide +kernel) ?_
                  refine lv_iconst (pc := 94) (v := 0) E.1 E.2.1 dX12_readProduct_94 (by decide +kernel) ?_
                  refine cm_v (pc := 95) hw156 (rn_M (As := [.int 5, .int 0]) (rest := []) E hw156 (s_emits2 l D cI cJ _ M mr (upd (upd (upd (upd (upd (upd (upd mi 22 nspot_147) 23 nfrom_148) 24 ntoken_149) 25 nvalue_150) 34 ncodes_153) 38 nreadFault_154) 39 nreadPlace_155) (va_up (va_up mf 31 gop_151) 32 garg_152) mg 5 0 (by show 0 ≤ ncodes_153.toInt ∧ ncodes_153.toInt ≤ 399; omega) (show LW 0 0 gop_151 garg_152 (mf 28) (mf 29) (mf 30) ((mf 27) 0).toInt 400 from hp_165) (show LW 16 400 gop_151 garg_152 (mf 28) (mf 29) (mf 30) ((mf 27) 1).toInt 400 from hp_166)) (gdV q_1786 q_1788 q_82 q_162 q_1789) hdV_X12_emits ⟨rfl, rfl⟩ ⟨(Nat.le_of_ble_eq_true rfl), (Nat.le_of_ble_eq_true rfl)⟩ ⟨(Nat.le_of_ble_eq_true rfl), (Nat.le_of_ble_eq_true rfl)⟩ 12 rfl rfl rfl rfl hl124.1 rfl (Nat.le_of_ble_eq_true rfl) dX12_readProduct_95) (fun u_176 H1 locs hp hw178 => ?_)
                  obtain ⟨gop_179, garg_180, ncodes_181⟩ := u_176
                  generalize H1 = H at hw178 ⊢
                  have hw182 : WD D A s.heap (MW cI cJ M mr (upd (upd (upd (upd (upd (upd (upd mi 22 nspot_147) 23 nfrom_148) 24 ntoken_149) 25 nvalue_150) 34 ncodes_181) 38 nreadFault_154) 39 nreadPlace_155) (va_up (va_up mf 31 gop_179) 32 garg_180) mg) H locs := hw178
                  obtain ⟨hp_183, hp_184, hp_185, hp_186⟩ := hp
                  have hp_183 : ncodes_181.toInt = ncodes_153.toInt + 1 := hp_183
                  have hp_184 : LW 0 0 gop_179 garg_180 (mf 28) (mf 29) (mf 30) ((mf 27) 0).toInt 400 := hp_184
                  have hp_185 : LW 16 400 gop_179 garg_180 (mf 28) (mf 29) (mf 30) ((mf 27) 1).toInt 400 := hp_185
                  have hp_186 : EM gop_151 garg_152 gop_179 garg_180 (800 + (ncodes_153.toInt).toNat) (5 : Int32) (0 : Int32) := hp_186
                  refine lv_goto (pc := 98) (tgt := 10) E.1 E.2.1 dX12_readProduct_98 (by decide) ?_
                  exact ih_45 nspot_147 nfrom_148 ntoken_149 nvalue_150 ncodes_181 nreadFault_154 nreadPlace_155 gop_179 garg_180 _ _ _ ⟨hp_157, hp_158, hp_159, hp_160, hp_161, hp_162, (by show 0 ≤ ncodes_181.toInt; omega), (by show ncodes_181.toInt ≤ nfrom_148.toInt; omega), (by show (mi 23).toInt - (mi 34).toInt ≤ nfrom_148.toInt - ncodes_181.toInt; omega), (by show (mi 23).toInt + 1 ≤ nfrom_148.toInt; omega), (TX_two hi_44_10 hp_167 hp_186 ⟨by decide +kernel, by decide +kernel, by decide +kernel, fun _ => ⟨by omega, by rw [show 800 + (ncodes_153.toInt).toNat - 1 = 800 + (x_40.toInt).toNat from by omega]; exact (hp_168 (by omega)).1, by rw [show 800 + (ncodes_153.toInt).toNat - 1 = 800 + (x_40.toInt).toNat from by omega]; have q := (hp_168 (by omega)).2; exact mneE q (show (0 : Int32).toInt = 0 from by decide +kernel) (by omega)⟩⟩ (by omega)), (show LW 0 0 gop_179 garg_180 (mf 28) (mf 29) (mf 30) ((mf 27) 0).toInt 400 from hp_184), (show LW 16 400 gop_179 garg_180 (mf 28) (mf 29) (mf 30) ((mf 27) 1).toInt 400 from hp_185)⟩ (by omega) hw182 (lv_sub hl124 [1] rfl)
              · skip
                have hc_143 := eqE (a := nvalue_131.toInt) (b := 0) rfl (by decide +kernel) c_143
                refine lv_aload_n (pc := 68) E.1 E.2.1 dX12_readProduct_68 rfl (lv_at hl124 1 rfl) ?_
                refine lv_iconst (pc := 69) (v := 2) E.1 E.2.1 dX12_readProduct_69 (by decide +kernel) ?_
                refine cm_i (pc := 70) hw132 (rn_M (As := [.int 2]) (rest := []) E hw132 (s_errs2 l D cI cJ _ M mr (upd (upd (upd (upd (upd (upd (upd mi 22 nspot_128) 23 nfrom_129) 24 ntoken_130) 25 nvalue_131) 34 x_40) 38 x_41) 39 x_42) (va_up (va_up mf 31 g_43) 32 g_44) mg 2) (gdV q_1698 q_1700 q_60 q_162 q_1701) hdV_X12_errs ⟨rfl, rfl⟩ ⟨(Nat.le_of_ble_eq_true rfl), (Nat.le_of_ble_eq_true rfl)⟩ ⟨(Nat.le_of_ble_eq_true rfl), (Nat.le_of_ble_eq_true rfl)⟩ 12 rfl rfl rfl rfl hl124.1 rfl (Nat.le_of_ble_eq_true rfl) dX12_readProduct_70) (fun r_188 u_187 H1 locs hp hw189 => ?_)
                obtain ⟨nreadFault_190, nreadPlace_191⟩ := u_187
                generalize H1 = H at hw189 ⊢
                have hw192 : WD D A s.heap (MW cI cJ M mr (upd (upd (upd (upd (upd (upd (upd mi 22 nspot_128) 23 nfrom_129) 24 ntoken_130) 25 nvalue_131) 34 x_40) 38 nreadFault_190) 39 nreadPlace_191) (va_up (va_up mf 31 g_43) 32 g_44) mg) H locs := hw189
                have hp_193 := hp
                rcases hp_193 with rfl
                · skip
                  exact em_i (w1 := (fun (u : Int32 × Int32 × Int32 × Int32 × (Nat → Int32) × (Nat → Int32) × Int32 × Int32 × Int32) => (MW cI cJ M mr (upd (upd (upd (upd (upd (upd (upd mi 22 u.1) 23 u.2.1) 24 u.2.2.1) 25 u.2.2.2.1) 34 u.2.2.2.2.2.2.1) 38 u.2.2.2.2.2.2.2.1) 39 u.2.2.2.2.2.2.2.2) (va_up (va_up mf 31 u.2.2.2.2.1) 32 u.2.2.2.2.2.1) mg))) E hr hlk (nspot_128, nfrom_129, ntoken_130, nvalue_131, g_43, g_44, x_40, nreadFault_190, nreadPlace_191) hw192 ⟨hp_133, hp_134, hp_135, hp_136, hp_137, hp_138, hi_44_6, (by show x_40.toInt ≤ nfrom_129.toInt; have k_0 : ((-1) : Int32).toInt = -1 := (by decide +kernel); omega), hi_44_11, hi_44_12, (fun h => absurd h (by decide +kernel)), (Or.inl rfl)⟩ (Nat.le_of_ble_eq_true rfl) (Nat.le_of_ble_eq_true rfl) dX12_readProduct_73
            · skip
              have hc_141 := neE (a := ntoken_130.toInt) (b := 3) rfl (by decide +kernel) c_141
              refine lv_aload_n (pc := 51) E.1 E.2.1 dX12_readProduct_51 rfl (lv_at hl124 1 rfl) ?_
              refine lv_iconst (pc := 52) (v := 1) E.1 E.2.1 dX12_readProduct_52 (by decide +kernel) ?_
              refine cm_i (pc := 53) hw132 (rn_M (As := [.int 1]) (rest := []) E hw132 (s_errs2 l D cI cJ _ M mr (upd (upd (upd (upd (upd (upd (upd mi 22 nspot_128) 23 nfrom_129) 24 ntoken_130) 25 nvalue_131) 34 x_40) 38 x_41) 39 x_42) (va_up (va_up mf 31 g_43) 32 g_44) mg 1) (gdV q_1698 q_1700 q_60 q_162 q_1701) hdV_X12_errs ⟨rfl, rfl⟩ ⟨(Nat.le_of_ble_eq_true rfl), (Nat.le_of_ble_eq_true rfl)⟩ ⟨(Nat.le_of_ble_eq_true rfl), (Nat.le_of_ble_eq_true rfl)⟩ 12 rfl rfl rfl rfl hl124.1 rfl (Nat.le_of_ble_eq_true rfl) dX12_readProduct_53) (fun r_195 u_194 H1 locs hp hw196 => ?_)
              obtain ⟨nreadFault_197, nreadPlace_198⟩ := u_194
              generalize H1 = H at hw196 ⊢
              have hw199 : WD D A s.heap (MW cI cJ M mr (upd (upd (upd (upd (upd (upd (upd mi 22 nspot_128) 23 nfrom_129) 24 ntoken_130) 25 nvalue_131) 34 x_40) 38 nreadFault_197) 39 nreadPlace_198) (va_up (va_up mf 31 g_43) 32 g_44) mg) H locs := hw196
              have hp_200 := hp
              rcases hp_200 with rfl
              · skip
                exact em_i (w1 := (fun (u : Int32 × Int32 × Int32 × Int32 × (Nat → Int32) × (Nat → Int32) × Int32 × Int32 × Int32) => (MW cI cJ M mr (upd (upd (upd (upd (upd (upd (upd mi 22 u.1) 23 u.2.1) 24 u.2.2.1) 25 u.2.2.2.1) 34 u.2.2.2.2.2.2.1) 38 u.2.2.2.2.2.2.2.1) 39 u.2.2.2.2.2.2.2.2) (va_up (va_up mf 31 u.2.2.2.2.1) 32 u.2.2.2.2.2.1) mg))) E hr hlk (nspot_128, nfrom_129, ntoken_130, nvalue_131, g_43, g_44, x_40, nreadFault_197, nreadPlace_198) hw199 ⟨hp_133, hp_134, hp_135, hp_136, hp_137, hp_138, hi_44_6, (by show x_40.toInt ≤ nfrom_129.toInt; have k_0 : ((-1) : Int32).toInt = -1 := (by decide +kernel); omega), hi_44_11, hi_44_12, (fun h => absurd h (by decide +kernel)), (Or.inl rfl)⟩ (Nat.le_of_ble_eq_true rfl) (Nat.le_of_ble_eq_true rfl) dX12_readProduct_56
        · skip
          refine lv_if_ne (pc := 16) (tgt := 28) E.1 E.2.1 dX12_readProduct_16 (by decide) (fun c_201 => absurd (meqE (a := 0) (b := 0) (by decide +kernel) (by decide +kernel) (by omega)) c_201) (fun _ => ?_)
          refine lv_aload_n (pc := 19) E.1 E.2.1 dX12_readProduct_19 rfl (lv_at hl47 0 rfl) ?_
          refine lv_bipush (pc := 20) (v := 47) E.1 E.2.1 dX12_readProduct_20 (by decide +kernel) ?_
          refine cm_i (pc := 22) hw51 (rn_M (As := [.int 47]) (rest := []) E hw51 (s_isSign2 l D cI cJ _ M mr (upd (upd (upd (upd (upd (upd (upd mi 22 x_36) 23 x_37) 24 x_38) 25 x_39) 34 x_40) 38 x_41) 39 x_42) (va_up (va_up mf 31 g_43) 32 g_44) mg 47) (gdV q_1718 q_1720 q_65 q_162 q_1721) hdV_X12_isSign ⟨rfl, rfl⟩ ⟨(Nat.le_of_ble_eq_true rfl), (Nat.le_of_ble_eq_true rfl)⟩ ⟨(Nat.le_of_ble_eq_true rfl), (Nat.le_of_ble_eq_true rfl)⟩ 12 rfl rfl rfl rfl hl47.1 rfl (Nat.le_of_ble_eq_true rfl) dX12_readProduct_22) (fun r_203 u_202 H1 locs hp hw204 => ?_)
          generalize H1 = H at hw204 ⊢
          have hw205 : WD D A s.heap (MW cI cJ M mr (upd (upd (upd (upd (upd (upd (upd mi 22 x_36) 23 x_37) 24 x_38) 25 x_39) 34 x_40) 38 x_41) 39 x_42) (va_up (va_up mf 31 g_43) 32 g_44) mg) H locs := hw204
          have hp_206 := hp
          rcases hp_206 with ⟨rfl, ha_207, ha_208⟩ | rfl
          · skip
            have ha_207 : x_38.toInt = 4 := ha_207
            have ha_208 : x_39.toInt = (47 : Int32).toInt := ha_208
            rw [show (47 : Int32).toInt = 47 from by decide +kernel] at ha_208
            refine lv_if_eq (pc := 25) (tgt := 101) E.1 E.2.1 dX12_readProduct_25 (by decide) (fun c_209 => absurd c_209 (mneE (a := 1) (b := 0) (by decide +kernel) (by decide +kernel) (by omega))) (fun _ => ?_)
            refine lv_aload_n (pc := 28) E.1 E.2.1 dX12_readProduct_28 rfl (lv_at hl47 0 rfl) ?_
            refine lv_bipush (pc := 29) (v := 42) E.1 E.2.1 dX12_readProduct_29 (by decide +kernel) ?_
            refine cm_i (pc := 31) hw205 (rn_M (As := [.int 42]) (rest := []) E hw205 (s_isSign2 l D cI cJ _ M mr (upd (upd (upd (upd (upd (upd (upd mi 22 x_36) 23 x_37) 24 x_38) 25 x_39) 34 x_40) 38 x_41) 39 x_42) (va_up (va_up mf 31 g_43) 32 g_44) mg 42) (gdV q_1718 q_1720 q_65 q_162 q_1721) hdV_X12_isSign ⟨rfl, rfl⟩ ⟨(Nat.le_of_ble_eq_true rfl), (Nat.le_of_ble_eq_true rfl)⟩ ⟨(Nat.le_of_ble_eq_true rfl), (Nat.le_of_ble_eq_true rfl)⟩ 12 rfl rfl rfl rfl hl47.1 rfl (Nat.le_of_ble_eq_true rfl) dX12_readProduct_31) (fun r_211 u_210 H1 locs hp hw212 => ?_)
            generalize H1 = H at hw212 ⊢
            have hw213 : WD D A s.heap (MW cI cJ M mr (upd (upd (upd (upd (upd (upd (upd mi 22 x_36) 23 x_37) 24 x_38) 25 x_39) 34 x_40) 38 x_41) 39 x_42) (va_up (va_up mf 31 g_43) 32 g_44) mg) H locs := hw212
            have hp_214 := hp
            rcases hp_214 with ⟨rfl, ha_215, ha_216⟩ | rfl
            · skip
              have ha_215 : x_38.toInt = 4 := ha_215
              have ha_216 : x_39.toInt = (42 : Int32).toInt := ha_216
              rw [show (42 : Int32).toInt = 42 from by decide +kernel] at ha_216
              exfalso; omega
            · skip
              refine lv_istore_n (pc := 34) (lv' := [(1, .int 0), (0, .ref M)]) E.1 E.2.1 dX12_readProduct_34 rfl hl47 (by decide) rfl (fun ls hl217 => ?_)
              refine lv_aload_n (pc := 35) E.1 E.2.1 dX12_readProduct_35 rfl (lv_at hl217 1 rfl) ?_
              refine cm_v (pc := 36) hw213 (rn_M (As := []) (rest := []) E hw213 (s_reads l D cI cJ _ M mr (upd (upd (upd (upd (upd (upd (upd mi 22 x_36) 23 x_37) 24 x_38) 25 x_39) 34 x_40) 38 x_41) 39 x_42) (va_up (va_up mf 31 g_43) 32 g_44) mg (by show 0 ≤ x_36.toInt; omega) hi_44_2 h3 h7) (gdV q_1666 q_1668 q_52 q_162 q_1669) hdV_X12_reads ⟨rfl, rfl⟩ ⟨(Nat.le_of_ble_eq_true rfl), (Nat.le_of_ble_eq_true rfl)⟩ ⟨(Nat.le_of_ble_eq_true rfl), (Nat.le_of_ble_eq_true rfl)⟩ 12 rfl rfl rfl rfl hl217.1 rfl (Nat.le_of_ble_eq_true rfl) dX12_readProduct_36) (fun u_218 H1 locs hp hw220 => ?_)
              obtain ⟨nspot_221, nfrom_222, ntoken_223, nvalue_224⟩ := u_218
              generalize H1 = H at hw220 ⊢
              have hw225 : WD D A s.heap (MW cI cJ M mr (upd (upd (upd (upd (upd (upd (upd mi 22 nspot_221) 23 nfrom_222) 24 ntoken_223) 25 nvalue_224) 34 x_40) 38 x_41) 39 x_42) (va_up (va_up mf 31 g_43) 32 g_44) mg) H locs := hw220
              obtain ⟨hp_226, hp_227, hp_228, hp_229, hp_230, hp_231, hp_232⟩ := hp
              have hp_226 : 0 ≤ nfrom_222.toInt := hp_226
              have hp_227 : nfrom_222.toInt ≤ nspot_221.toInt := hp_227
              have hp_228 : nspot_221.toInt ≤ (mi 21).toInt := hp_228
              have hp_229 : 0 ≤ ntoken_223.toInt := hp_229
              have hp_230 : ntoken_223.toInt ≤ 4 := hp_230
              have hp_231 : ntoken_223.toInt ≤ 4 * nspot_221.toInt - 4 * nfrom_222.toInt := hp_231
              have hp_232 : x_36.toInt ≤ nfrom_222.toInt := hp_232
              refine lv_iload_n (pc := 39) E.1 E.2.1 dX12_readProduct_39 rfl (lv_at hl217 0 rfl) ?_
              refine lv_if_ne (pc := 40) (tgt := 57) E.1 E.2.1 dX12_readProduct_40 (by decide) (fun c_233 => absurd (meqE (a := 0) (b := 0) (by decide +kernel) (by decide +kernel) (by omega)) c_233) (fun _ => ?_)
              refine lv_aload_n (pc := 43) E.1 E.2.1 dX12_readProduct_43 rfl (lv_at hl217 1 rfl) ?_
              refine x_get (pc := 44) (T := TX12) (N := 70) (ci := 12) (v := .int ntoken_223) E hw225 inX12 0 24 q_1423 rfl rfl (by decide) rfl rfl dX12_readProduct_44 ?_
              refine lv_iconst (pc := 47) (v := 3) E.1 E.2.1 dX12_readProduct_47 (by decide +kernel) ?_
              refine lv_icmp_eq (pc := 48) (tgt := 57) E.1 E.2.1 dX12_readProduct_48 (by decide) (fun c_234 => ?_) (fun c_234 => ?_)
              · skip
                have hc_234 := eqE (a := ntoken_223.toInt) (b := 3) rfl (by decide +kernel) c_234
                refine lv_iload_n (pc := 57) E.1 E.2.1 dX12_readProduct_57 rfl (lv_at hl217 0 rfl) ?_
                refine lv_if_ne (pc := 58) (tgt := 74) E.1 E.2.1 dX12_readProduct_58 (by decide) (fun c_235 => absurd (meqE (a := 0) (b := 0) (by decide +kernel) (by decide +kernel) (by omega)) c_235) (fun _ => ?_)
                refine lv_aload_n (pc := 61) E.1 E.2.1 dX12_readProduct_61 rfl (lv_at hl217 1 rfl) ?_
                refine x_get (pc := 62) (T := TX12) (N := 70) (ci := 12) (v := .int nvalue_224) E hw225 inX12 0 25 q_1424 rfl rfl (by decide) rfl rfl dX12_readProduct_62 ?_
                refine lv_if_ne (pc := 65) (tgt := 74) E.1 E.2.1 dX12_readProduct_65 (by decide) (fun c_236 => ?_) (fun c_236 => ?_)
                · skip
                  have hc_236 := neE (a := nvalue_224.toInt) (b := 0) rfl (by decide +kernel) c_236
                  refine lv_aload_n (pc := 74) E.1 E.2.1 dX12_readProduct_74 rfl (lv_at hl217 1 rfl) ?_
                  refine cm_i (pc := 75) hw225 (rn_M (As := []) (rest := []) E hw225 (s_readUnit l D cI cJ _ M mr (upd (upd (upd (upd (upd (upd (upd mi 22 nspot_221) 23 nfrom_222) 24 ntoken_223) 25 nvalue_224) 34 x_40) 38 x_41) 39 x_42) (va_up (va_up mf 31 g_43) 32 g_44) mg hp_226 hp_227 hp_228 h3 hp_229 hp_230 hp_231 h7 hi_44_6 (by show x_40.toInt ≤ nfrom_222.toInt; omega) (show LW 0 0 g_43 g_44 (mf 28) (mf 29) (mf 30) ((mf 27) 0).toInt 400 from hi_44_11) (show LW 16 400 g_43 g_44 (mf 28) (mf 29) (mf 30) ((mf 27) 1).toInt 400 from hi_44_12)) (gdV q_1778 q_1780 q_80 q_162 q_1781) hdV_X12_readUnit ⟨rfl, rfl⟩ ⟨(Nat.le_of_ble_eq_true rfl), (Nat.le_of_ble_eq_true rfl)⟩ ⟨(Nat.le_of_ble_eq_true rfl), (Nat.le_of_ble_eq_true rfl)⟩ 12 rfl rfl rfl rfl hl217.1 rfl (Nat.le_of_ble_eq_true rfl) dX12_readProduct_75) (fun r_238 u_237 H1 locs hp hw239 => ?_)
                  obtain ⟨nspot_240, nfrom_241, ntoken_242, nvalue_243, gop_244, garg_245, ncodes_246, nreadFault_247, nreadPlace_248⟩ := u_237
                  generalize H1 = H at hw239 ⊢
                  have hw249 : WD D A s.heap (MW cI cJ M mr (upd (upd (upd (upd (upd (upd (upd mi 22 nspot_240) 23 nfrom_241) 24 ntoken_242) 25 nvalue_243) 34 ncodes_246) 38 nreadFault_247) 39 nreadPlace_248) (va_up (va_up mf 31 gop_244) 32 garg_245) mg) H locs := hw239
                  obtain ⟨hp_250, hp_251, hp_252, hp_253, hp_254, hp_255, hp_256, hp_257, hp_258, hp_259, hp_260, hp_261, hp_262⟩ := hp
                  have hp_250 : 0 ≤ nfrom_241.toInt := hp_250
                  have hp_251 : nfrom_241.toInt ≤ nspot_240.toInt := hp_251
                  have hp_252 : nspot_240.toInt ≤ (mi 21).toInt := hp_252
                  have hp_253 : 0 ≤ ntoken_242.toInt := hp_253
                  have hp_254 : ntoken_242.toInt ≤ 4 := hp_254
                  have hp_255 : ntoken_242.toInt ≤ 4 * nspot_240.toInt - 4 * nfrom_241.toInt := hp_255
                  have hp_256 : 0 ≤ ncodes_246.toInt := hp_256
                  have hp_257 : ncodes_246.toInt ≤ nfrom_241.toInt := hp_257
                  have hp_258 : LW 0 0 gop_244 garg_245 (mf 28) (mf 29) (mf 30) ((mf 27) 0).toInt 400 := hp_258
                  have hp_259 : LW 16 400 gop_244 garg_245 (mf 28) (mf 29) (mf 30) ((mf 27) 1).toInt 400 := hp_259
                  have hp_260 : r_238 = 0 → TX g_43 g_44 (800 + (x_40.toInt).toNat) gop_244 garg_245 (800 + (ncodes_246.toInt).toNat) := hp_260
                  have hp_261 : r_238 = 0 → (ntoken_223.toInt = 3 → gop_244 (800 + (x_40.toInt).toNat) = 0 ∧ (garg_245 (800 + (x_40.toInt).toNat)).toInt = nvalue_224.toInt) := hp_261
                  rcases hp_262 with rfl | ⟨rfl, ha_263, ha_264, ha_265⟩
                  · skip
                    refine lv_iconst (pc := 78) (v := (-1)) E.1 E.2.1 dX12_readProduct_78 (by decide +kernel) ?_
                    refine lv_icmp_ne (pc := 79) (tgt := 84) E.1 E.2.1 dX12_readProduct_79 (by decide) (fun c_266 => absurd (meqE (a := (-1)) (b := (-1)) (by decide +kernel) (by decide +kernel) (by omega)) c_266) (fun _ => ?_)
                    refine lv_iconst (pc := 82) (v := (-1)) E.1 E.2.1 dX12_readProduct_82 (by decide +kernel) ?_
                    exact em_i (w1 := (fun (u : Int32 × Int32 × Int32 × Int32 × (Nat → Int32) × (Nat → Int32) × Int32 × Int32 × Int32) => (MW cI cJ M mr (upd (upd (upd (upd (upd (upd (upd mi 22 u.1) 23 u.2.1) 24 u.2.2.1) 25 u.2.2.2.1) 34 u.2.2.2.2.2.2.1) 38 u.2.2.2.2.2.2.2.1) 39 u.2.2.2.2.2.2.2.2) (va_up (va_up mf 31 u.2.2.2.2.1) 32 u.2.2.2.2.2.1) mg))) E hr hlk (nspot_240, nfrom_241, ntoken_242, nvalue_243, gop_244, garg_245, ncodes_246, nreadFault_247, nreadPlace_248) hw249 ⟨hp_250, hp_251, hp_252, hp_253, hp_254, hp_255, hp_256, hp_257, hp_258, hp_259, (fun h => absurd h (by decide +kernel)), (Or.inl rfl)⟩ (Nat.le_of_ble_eq_true rfl) (Nat.le_of_ble_eq_true rfl) dX12_readProduct_83
                  · skip
                    have hp_260 := hp_260 rfl
                    have hp_261 := hp_261 rfl
                    have ha_263 : nfrom_222.toInt - x_40.toInt ≤ nfrom_241.toInt - ncodes_246.toInt := ha_263
                    have ha_264 : nfrom_222.toInt + 1 ≤ nfrom_241.toInt := ha_264
                    have ha_265 : ncodes_246.toInt = x_40.toInt + 1 := ha_265
                    refine lv_iconst (pc := 78) (v := (-1)) E.1 E.2.1 dX12_readProduct_78 (by decide +kernel) ?_
                    refine lv_icmp_ne (pc := 79) (tgt := 84) E.1 E.2.1 dX12_readProduct_79 (by decide) (fun _ => ?_) (fun c_267 => absurd c_267 (mneE (a := 0) (b := (-1)) (by decide +kernel) (by decide +kernel) (by omega)))
                    refine lv_aload_n (pc := 84) E.1 E.2.1 dX12_readProduct_84 rfl (lv_at hl217 1 rfl) ?_
                    refine lv_iload_n (pc := 85) E.1 E.2.1 dX12_readProduct_85 rfl (lv_at hl217 0 rfl) ?_
                    refine lv_if_eq (pc := 86) (tgt := 93) E.1 E.2.1 dX12_readProduct_86 (by decide) (fun _ => ?_) (fun c_268 => absurd (meqE (a := 0) (b := 0) (by decide +kernel) (by decide +kernel) (by omega)) c_268)
                    refine lv_iconst (pc := 93) (v := 5) E.1 E.2.1 dX12_readProduct_93 (by decide +kernel) ?_
                    refine lv_iconst (pc := 94) (v := 0) E.1 E.2.1 dX12_readProduct_94 (by decide +kernel) ?_
                    refine cm_v (pc := 95) hw249 (rn_M (As := [.int 5, .int 0]) (rest := []) E hw249 (s_emits2 l D cI cJ _ M mr (upd (upd (upd (upd (upd (upd (upd mi 22 nspot_240) 23 nfrom_241) 24 ntoken_242) 25 nvalue_243) 34 ncodes_246) 38 nreadFault_247) 39 nreadPlace_248) (va_up (va_up mf 31 gop_244) 32 garg_245) mg 5 0 (by show 0 ≤ ncodes_246.toInt ∧ ncodes_246.toInt ≤ 399; omega) (show LW 0 0 gop_244 garg_245 (mf 28) (mf 29) (mf 30) ((mf 27) 0).toInt 400 from hp_258) (show LW 16 400 gop_244 garg_245 (mf 28) (mf 29) (mf 30) ((mf 27) 1).toInt 400 from hp_259)) (gdV q_1786 q_1788 q_82 q_162 q_1789) hdV_X12_emits ⟨rfl, rfl⟩ ⟨(Nat.le_of_ble_eq_true rfl), (Nat.le_of_ble_eq_true rfl)⟩ ⟨(Nat.le_of_ble_eq_true rfl), (Nat.le_of_ble_eq_true rfl)⟩ 12 rfl rfl rfl rfl hl217.1 rfl (Nat.le_of_ble_eq_true rfl) dX12_readProduct_95) (fun u_269 H1 locs hp hw271 => ?_)
                    obtain ⟨gop_272, garg_273, ncodes_274⟩ := u_269
                    generalize H1 = H at hw271 ⊢
                    have hw275 : WD D A s.heap (MW cI cJ M mr (upd (upd (upd (upd (upd (upd (upd mi 22 nspot_240) 23 nfrom_241) 24 ntoken_242) 25 nvalue_243) 34 ncodes_274) 38 nreadFault_247) 39 nreadPlace_248) (va_up (va_up mf 31 gop_272) 32 garg_273) mg) H locs := hw271
                    obtain ⟨hp_276, hp_277, hp_278, hp_279⟩ := hp
                    have hp_276 : ncodes_274.toInt = ncodes_246.toInt + 1 := hp_276
                    have hp_277 : LW 0 0 gop_272 garg_273 (mf 28) (mf 29) (mf 30) ((mf 27) 0).toInt 400 := hp_277
                    have hp_278 : LW 16 400 gop_272 garg_273 (mf 28) (mf 29) (mf 30) ((mf 27) 1).toInt 400 := hp_278
                    have hp_279 : EM gop_244 garg_245 gop_272 garg_273 (800 + (ncodes_246.toInt).toNat) (5 : Int32) (0 : Int32) := hp_279
                    refine lv_goto (pc := 98) (tgt := 10) E.1 E.2.1 dX12_readProduct_98 (by decide) ?_
                    exact ih_45 nspot_240 nfrom_241 ntoken_242 nvalue_243 ncodes_274 nreadFault_247 nreadPlace_248 gop_272 garg_273 _ _ _ ⟨hp_250, hp_251, hp_252, hp_253, hp_254, hp_255, (by show 0 ≤ ncodes_274.toInt; omega), (by show ncodes_274.toInt ≤ nfrom_241.toInt; omega), (by show (mi 23).toInt - (mi 34).toInt ≤ nfrom_241.toInt - ncodes_274.toInt; omega), (by show (mi 23).toInt + 1 ≤ nfrom_241.toInt; omega), (TX_two hi_44_10 hp_260 hp_279 ⟨by decide +kernel, by decide +kernel, by decide +kernel, fun _ => ⟨by omega, by rw [show 800 + (ncodes_246.toInt).toNat - 1 = 800 + (x_40.toInt).toNat from by omega]; exact (hp_261 (by omega)).1, by rw [show 800 + (ncodes_246.toInt).toNat - 1 = 800 + (x_40.toInt).toNat from by omega]; have q := (hp_261 (by omega)).2; exact mneE q (show (0 : Int32).toInt = 0 from by decide +kernel) (by omega)⟩⟩ (by omega)), (show LW 0 0 gop_272 garg_273 (mf 28) (mf 29) (mf 30) ((mf 27) 0).toInt 400 from hp_277), (show LW 16 400 gop_272 garg_273 (mf 28) (mf 29) (mf 30) ((mf 27) 1).toInt 400 from hp_278)⟩ (by omega) hw275 (lv_sub hl217 [1] rfl)
                · skip
                  have hc_236 := eqE (a := nvalue_224.toInt) (b := 0) rfl (by decide +kernel) c_236
                  refine lv_aload_n (pc := 68) E.1 E.2.1 dX12_readProduct_68 rfl (lv_at hl217 1 rfl) ?_
                  refine lv_iconst (pc := 69) (v := 2) E.1 E.2.1 dX12_readProduct_69 (by decide +kernel) ?_
                  refine cm_i (pc := 70) hw225 (rn_M (As := [.int 2]) (rest := []) E hw225 (s_errs2 l D cI cJ _ M mr (upd (upd (upd (upd (upd (upd (upd mi 22 nspot_221) 23 nfrom_222) 24 ntoken_223) 25 nvalue_224) 34 x_40) 38 x_41) 39 x_42) (va_up (va_up mf 31 g_43) 32 g_44) mg 2) (gdV q_1698 q_1700 q_60 q_162 q_1701) hdV_X12_errs ⟨rfl, rfl⟩ ⟨(Nat.le_of_ble_eq_true rfl), (Nat.le_of_ble_eq_true rfl)⟩ ⟨(Nat.le_of_ble_eq_true rfl), (Nat.le_of_ble_eq_true rfl)⟩ 12 rfl rfl rfl rfl hl217.1 rfl (Nat.le_of_ble_eq_true rfl) dX12_readProduct_70) (fun r_281 u_280 H1 locs hp hw282 => ?_)
                  obtain ⟨nreadFault_283, nreadPlace_284⟩ := u_280
                  generalize H1 = H at hw282 ⊢
                  have hw285 : WD D A s.heap (MW cI cJ M mr (upd (upd (upd (upd (upd (upd (upd mi 22 nspot_221) 23 nfrom_222) 24 ntoken_223) 25 nvalue_224) 34 x_40) 38 nreadFault_283) 39 nreadPlace_284) (va_up (va_up mf 31 g_43) 32 g_44) mg) H locs := hw282
                  have hp_286 := hp
                  rcases hp_286 with rfl
                  · skip
                    exact em_i (w1 := (fun (u : Int32 × Int32 × Int32 × Int32 × (Nat → Int32) × (Nat → Int32) × Int32 × Int32 × Int32) => (MW cI cJ M mr (upd (upd (upd (upd (upd (upd (upd mi 22 u.1) 23 u.2.1) 24 u.2.2.1) 25 u.2.2.2.1) 34 u.2.2.2.2.2.2.1) 38 u.2.2.2.2.2.2.2.1) 39 u.2.2.2.2.2.2.2.2) (va_up (va_up mf 31 u.2.2.2.2.1) 32 u.2.2.2.2.2.1) mg))) E hr hlk (nspot_221, nfrom_222, ntoken_223, nvalue_224, g_43, g_44, x_40, nreadFault_283, nreadPlace_284) hw285 ⟨hp_226, hp_227, hp_228, hp_229, hp_230, hp_231, hi_44_6, (by show x_40.toInt ≤ nfrom_222.toInt; have k_0 : ((-1) : Int32).toInt = -1 := (by decide +kernel); omega), hi_44_11, hi_44_12, (fun h => absurd h (by decide +kernel)), (Or.inl rfl)⟩ (Nat.le_of_ble_eq_true rfl) (Nat.le_of_ble_eq_true rfl) dX12_readProduct_73
              · skip
                have hc_234 := neE (a := ntoken_223.toInt) (b := 3) rfl (by decide +kernel) c_234
                refine lv_aload_n (pc := 51) E.1 E.2.1 dX12_readProduct_51 rfl (lv_at hl217 1 rfl) ?_
                refine lv_iconst (pc := 52) (v := 1) E.1 E.2.1 dX12_readProduct_52 (by decide +kernel) ?_
                refine cm_i (pc := 53) hw225 (rn_M (As := [.int 1]) (rest := []) E hw225 (s_errs2 l D cI cJ _ M mr (upd (upd (upd (upd (upd (upd (upd mi 22 nspot_221) 23 nfrom_222) 24 ntoken_223) 25 nvalue_224) 34 x_40) 38 x_41) 39 x_42) (va_up (va_up mf 31 g_43) 32 g_44) mg 1) (gdV q_1698 q_1700 q_60 q_162 q_1701) hdV_X12_errs ⟨rfl, rfl⟩ ⟨(Nat.le_of_ble_eq_true rfl), (Nat.le_of_ble_eq_true rfl)⟩ ⟨(Nat.le_of_ble_eq_true rfl), (Nat.le_of_ble_eq_true rfl)⟩ 12 rfl rfl rfl rfl hl217.1 rfl (Nat.le_of_ble_eq_true rfl) dX12_readProduct_53) (fun r_288 u_287 H1 locs hp hw289 => ?_)
                obtain ⟨nreadFault_290, nreadPlace_291⟩ := u_287
                generalize H1 = H at hw289 ⊢
                have hw292 : WD D A s.heap (MW cI cJ M mr (upd (upd (upd (upd (upd (upd (upd mi 22 nspot_221) 23 nfrom_222) 24 ntoken_223) 25 nvalue_224) 34 x_40) 38 nreadFault_290) 39 nreadPlace_291) (va_up (va_up mf 31 g_43) 32 g_44) mg) H locs := hw289
                have hp_293 := hp
                rcases hp_293 with rfl
                · skip
                  exact em_i (w1 := (fun (u : Int32 × Int32 × Int32 × Int32 × (Nat → Int32) × (Nat → Int32) × Int32 × Int32 × Int32) => (MW cI cJ M mr (upd (upd (upd (upd (upd (upd (upd mi 22 u.1) 23 u.2.1) 24 u.2.2.1) 25 u.2.2.2.1) 34 u.2.2.2.2.2.2.1) 38 u.2.2.2.2.2.2.2.1) 39 u.2.2.2.2.2.2.2.2) (va_up (va_up mf 31 u.2.2.2.2.1) 32 u.2.2.2.2.2.1) mg))) E hr hlk (nspot_221, nfrom_222, ntoken_223, nvalue_224, g_43, g_44, x_40, nreadFault_290, nreadPlace_291) hw292 ⟨hp_226, hp_227, hp_228, hp_229, hp_230, hp_231, hi_44_6, (by show x_40.toInt ≤ nfrom_222.toInt; have k_0 : ((-1) : Int32).toInt = -1 := (by decide +kernel); omega), hi_44_11, hi_44_12, (fun h => absurd h (by decide +kernel)), (Or.inl rfl)⟩ (Nat.le_of_ble_eq_true rfl) (Nat.le_of_ble_eq_true rfl) dX12_readProduct_56
          · skip
            refine lv_if_eq (pc := 25) (tgt := 101) E.1 E.2.1 dX12_readProduct_25 (by decide) (fun _ => ?_) (fun c_294 => absurd (meqE (a := 0) (b := 0) (by decide +kernel) (by decide +kernel) (by omega)) c_294)
            refine lv_iconst (pc := 101) (v := 0) E.1 E.2.1 dX12_readProduct_101 (by decide +kernel) ?_
            exact em_i (w1 := (fun (u : Int32 × Int32 × Int32 × Int32 × (Nat → Int32) × (Nat → Int32) × Int32 × Int32 × Int32) => (MW cI cJ M mr (upd (upd (upd (upd (upd (upd (upd mi 22 u.1) 23 u.2.1) 24 u.2.2.1) 25 u.2.2.2.1) 34 u.2.2.2.2.2.2.1) 38 u.2.2.2.2.2.2.2.1) 39 u.2.2.2.2.2.2.2.2) (va_up (va_up mf 31 u.2.2.2.2.1) 32 u.2.2.2.2.2.1) mg))) E hr hlk (x_36, x_37, x_38, x_39, g_43, g_44, x_40, x_41, x_42) hw205 ⟨hi_44_0, hi_44_1, hi_44_2, hi_44_3, hi_44_4, hi_44_5, hi_44_6, hi_44_7, hi_44_11, hi_44_12, (fun _ => (show TX (mf 31) (mf 32) (800 + ((mi 34).toInt).toNat) g_43 g_44 (800 + (x_40.toInt).toNat) from hi_44_10)), (Or.inr (⟨rfl, hi_44_8, hi_44_9⟩))⟩ (Nat.le_of_ble_eq_true rfl) (Nat.le_of_ble_eq_true rfl) dX12_readProduct_102
    exact loop_35 (Int.toNat ((mi 21).toInt - nfrom_8.toInt) + 1) nspot_7 nfrom_8 ntoken_9 nvalue_10 ncodes_13 nreadFault_14 nreadPlace_15 gop_11 garg_12 _ _ _ ⟨hp_17, hp_18, hp_19, hp_20, hp_21, hp_22, hp_23, hp_24, (by show (mi 23).toInt - (mi 34).toInt ≤ nfrom_8.toInt - ncodes_13.toInt; omega), (by show (mi 23).toInt + 1 ≤ nfrom_8.toInt; omega), hp_27, (show LW 0 0 gop_11 garg_12 (mf 28) (mf 29) (mf 30) ((mf 27) 0).toInt 400 from hp_25), (show LW 16 400 gop_11 garg_12 (mf 28) (mf 29) (mf 30) ((mf 27) 1).toInt 400 from hp_26)⟩ (by omega) hw16 (lv_sub hl3 [0] rfl)

set_option maxHeartbeats 4000000 in
set_option maxRecDepth 100000 in
theorem s_readSum (l : Launch) (D : va_G) (cI cJ : ClassId) (sz M : Nat) (mr : Nat → Nat) (mi : Nat → Int32) (mf : Nat → Nat → Int32) (mg : Nat → Nat → Int64)  (h0 : 0 ≤ (mi 23).toInt) (h1 : (mi 23).toInt ≤ (mi 22).toInt) (h2 : (mi 22).toInt ≤ (mi 21).toInt) (h3 : (mi 21).toInt ≤ 400) (h4 : 0 ≤ (mi 24).toInt) (h5 : (mi 24).toInt ≤ 4) (h6 : (mi 24).toInt ≤ 4 * (mi 22).toInt - 4 * (mi 23).toInt) (h7 : ((mf 26) 153).toInt = 32) (h8 : 0 ≤ (mi 34).toInt) (h9 : (mi 34).toInt ≤ (mi 23).toInt) (lf_law0 : LW 0 0 (mf 31) (mf 32) (mf 28) (mf 29) (mf 30) ((mf 27) 0).toInt 400) (lf_law1 : LW 16 400 (mf 31) (mf 32) (mf 28) (mf 29) (mf 30) ((mf 27) 1).toInt 400) : Met l yX12_readSum (Cond.code yX12_readSum cX12_readSum 2 (some .int) :: GW) ({ frames := 6, cells := 0, slots := 0, locals := 147 } : Room) (va_Pc [.ref M] (PW D cI cJ sz (MW cI cJ M mr mi mf mg) xT)) (va_Qi (fun (r : Int32) (u : Int32 × Int32 × Int32 × Int32 × (Nat → Int32) × (Nat → Int32) × Int32 × Int32 × Int32) => (0 ≤ u.2.1.toInt) ∧ (u.2.1.toInt ≤ u.1.toInt) ∧ (u.1.toInt ≤ (mi 21).toInt) ∧ (0 ≤ u.2.2.1.toInt) ∧ (u.2.2.1.toInt ≤ 4) ∧ (u.2.2.1.toInt ≤ 4 * u.1.toInt - 4 * u.2.1.toInt) ∧ (0 ≤ u.2.2.2.2.2.2.1.toInt) ∧ (u.2.2.2.2.2.2.1.toInt ≤ u.2.1.toInt) ∧ (LW 0 0 u.2.2.2.2.1 u.2.2.2.2.2.1 (mf 28) (mf 29) (mf 30) ((mf 27) 0).toInt 400) ∧ (LW 16 400 u.2.2.2.2.1 u.2.2.2.2.2.1 (mf 28) (mf 29) (mf 30) ((mf 27) 1).toInt 400) ∧ (r = 0 → TX (mf 31) (mf 32) (800 + ((mi 34).toInt).toNat) u.2.2.2.2.1 u.2.2.2.2.2.1 (800 + (u.2.2.2.2.2.2.1.toInt).toNat)) ∧ ((r = (-1)) ∨ (r = 0 ∧ (mi 23).toInt - (mi 34).toInt ≤ u.2.1.toInt - u.2.2.2.2.2.2.1.toInt ∧ (mi 23).toInt + 1 ≤ u.2.1.toInt))) (fun u => QW D cI cJ (va_A (MW cI cJ M mr mi mf mg) sz) ((fun (u : Int32 × Int32 × Int32 × Int32 × (Nat → Int32) × (Nat → Int32) × Int32 × Int32 × Int32) => (MW cI cJ M mr (upd (upd (upd (upd (upd (upd (upd mi 22 u.1) 23 u.2.1) 24 u.2.2.1) 25 u.2.2.2.1) 34 u.2.2.2.2.2.2.1) 38 u.2.2.2.2.2.2.2.1) 39 u.2.2.2.2.2.2.2.2) (va_up (va_up mf 31 u.2.2.2.2.1) 32 u.2.2.2.2.2.1) mg)) u)) (va_A (MW cI cJ M mr mi mf mg) sz)) 0 0 (va_A (MW cI cJ M mr mi mf mg) sz) := by
  refine mk_met (y := yX12_readSum) (bytes := cX12_readSum) (maxL := 2) (avs := [.ref M]) (WS := (MW cI cJ M mr mi mf mg)) (Qf := fun A => va_Qi (fun (r : Int32) (u : Int32 × Int32 × Int32 × Int32 × (Nat → Int32) × (Nat → Int32) × Int32 × Int32 × Int32) => (0 ≤ u.2.1.toInt) ∧ (u.2.1.toInt ≤ u.1.toInt) ∧ (u.1.toInt ≤ (mi 21).toInt) ∧ (0 ≤ u.2.2.1.toInt) ∧ (u.2.2.1.toInt ≤ 4) ∧ (u.2.2.1.toInt ≤ 4 * u.1.toInt - 4 * u.2.1.toInt) ∧ (0 ≤ u.2.2.2.2.2.2.1.toInt) ∧ (u.2.2.2.2.2.2.1.toInt ≤ u.2.1.toInt) ∧ (LW 0 0 u.2.2.2.2.1 u.2.2.2.2.2.1 (mf 28) (mf 29) (mf 30) ((mf 27) 0).toInt 400) ∧ (LW 16 400 u.2.2.2.2.1 u.2.2.2.2.2.1 (mf 28) (mf 29) (mf 30) ((mf 27) 1).toInt 400) ∧ (r = 0 → TX (mf 31) (mf 32) (800 + ((mi 34).toInt).toNat) u.2.2.2.2.1 u.2.2.2.2.2.1 (800 + (u.2.2.2.2.2.2.1.toInt).toNat)) ∧ ((r = (-1)) ∨ (r = 0 ∧ (mi 23).toInt - (mi 34).toInt ≤ u.2.1.toInt - u.2.2.2.2.2.2.1.toInt ∧ (mi 23).toInt + 1 ≤ u.2.1.toInt))) (fun u => QW D cI cJ A ((fun (u : Int32 × Int32 × Int32 × Int32 × (Nat → Int32) × (Nat → Int32) × Int32 × Int32 × Int32) => (MW cI cJ M mr (upd (upd (upd (upd (upd (upd (upd mi 22 u.1) 23 u.2.1) 24 u.2.2.1) 25 u.2.2.2.1) 34 u.2.2.2.2.2.2.1) 38 u.2.2.2.2.2.2.2.1) 39 u.2.2.2.2.2.2.2.2) (va_up (va_up mf 31 u.2.2.2.2.1) 32 u.2.2.2.2.2.1) mg)) u)) A) (by decide) (Nat.le_of_ble_eq_true rfl) ?_
  intro p e s m below meth c A ls E hr hlk hnm hX hw1 hl2
  have hl3 : lv_has ls 2 [(0, .ref M)] := hl2
  refine lv_aload_n (pc := 0) E.1 E.2.1 dX12_readSum_0 rfl (lv_at hl3 0 rfl) ?_
  refine cm_i (pc := 1) hw1 (rn_M (As := []) (rest := []) E hw1 (s_readProduct l D cI cJ _ M mr mi mf mg h0 h1 h2 h3 h4 h5 h6 h7 h8 h9 (show LW 0 0 (mf 31) (mf 32) (mf 28) (mf 29) (mf 30) ((mf 27) 0).toInt 400 from lf_law0) (show LW 16 400 (mf 31) (mf 32) (mf 28) (mf 29) (mf 30) ((mf 27) 1).toInt 400 from lf_law1)) (gdV q_1774 q_1776 q_79 q_162 q_1777) hdV_X12_readProduct ⟨rfl, rfl⟩ ⟨(Nat.le_of_ble_eq_true rfl), (Nat.le_of_ble_eq_true rfl)⟩ ⟨(Nat.le_of_ble_eq_true rfl), (Nat.le_of_ble_eq_true rfl)⟩ 12 rfl rfl rfl rfl hl3.1 rfl (Nat.le_of_ble_eq_true rfl) dX12_readSum_1) (fun r_5 u_4 H1 locs hp hw6 => ?_)
  obtain ⟨nspot_7, nfrom_8, ntoken_9, nvalue_10, gop_11, garg_12, ncodes_13, nreadFault_14, nreadPlace_15⟩ := u_4
  generalize H1 = H at hw6 ⊢
  have hw16 : WD D A s.heap (MW cI cJ M mr (upd (upd (upd (upd (upd (upd (upd mi 22 nspot_7) 23 nfrom_8) 24 ntoken_9) 25 nvalue_10) 34 ncodes_13) 38 nreadFault_14) 39 nreadPlace_15) (va_up (va_up mf 31 gop_11) 32 garg_12) mg) H locs := hw6
  obtain ⟨hp_17, hp_18, hp_19, hp_20, hp_21, hp_22, hp_23, hp_24, hp_25, hp_26, hp_27, hp_28⟩ := hp
  have hp_17 : 0 ≤ nfrom_8.toInt := hp_17
  have hp_18 : nfrom_8.toInt ≤ nspot_7.toInt := hp_18
  have hp_19 : nspot_7.toInt ≤ (mi 21).toInt := hp_19
  have hp_20 : 0 ≤ ntoken_9.toInt := hp_20
  have hp_21 : ntoken_9.toInt ≤ 4 := hp_21
  have hp_22 : ntoken_9.toInt ≤ 4 * nspot_7.toInt - 4 * nfrom_8.toInt := hp_22
  have hp_23 : 0 ≤ ncodes_13.toInt := hp_23
  have hp_24 : ncodes_13.toInt ≤ nfrom_8.toInt := hp_24
  have hp_25 : LW 0 0 gop_11 garg_12 (mf 28) (mf 29) (mf 30) ((mf 27) 0).toInt 400 := hp_25
  have hp_26 : LW 16 400 gop_11 garg_12 (mf 28) (mf 29) (mf 30) ((mf 27) 1).toInt 400 := hp_26
  have hp_27 : r_5 = 0 → TX (mf 31) (mf 32) (800 + ((mi 34).toInt).toNat) gop_11 garg_12 (800 + (ncodes_13.toInt).toNat) := hp_27
  rcases hp_28 with rfl | ⟨rfl, ha_29, ha_30⟩
  · skip
    refine lv_iconst (pc := 4) (v := (-1)) E.1 E.2.1 dX12_readSum_4 (by decide +kernel) ?_
    refine lv_icmp_ne (pc := 5) (tgt := 10) E.1 E.2.1 dX12_readSum_5 (by decide) (fun c_31 => absurd (meqE (a := (-1)) (b := (-1)) (by decide +kernel) (by decide +kernel) (by omega)) c_31) (fun _ => ?_)
    refine lv_iconst (pc := 8) (v := (-1)) E.1 E.2.1 dX12_readSum_8 (by decide +kernel) ?_
    exact em_i (w1 := (fun (u : Int32 × Int32 × Int32 × Int32 × (Nat → Int32) × (Nat → Int32) × Int32 × Int32 × Int32) => (MW cI cJ M mr (upd (upd (upd (upd (upd (upd (upd mi 22 u.1) 23 u.2.1) 24 u.2.2.1) 25 u.2.2.2.1) 34 u.2.2.2.2.2.2.1) 38 u.2.2.2.2.2.2.2.1) 39 u.2.2.2.2.2.2.2.2) (va_up (va_up mf 31 u.2.2.2.2.1) 32 u.2.2.2.2.2.1) mg))) E hr hlk (nspot_7, nfrom_8, ntoken_9, nvalue_10, gop_11, garg_12, ncodes_13, nreadFault_14, nreadPlace_15) hw16 ⟨hp_17, hp_18, hp_19, hp_20, hp_21, hp_22, hp_23, hp_24, hp_25, hp_26, (fun h => absurd h (by decide +kernel)), (Or.inl rfl)⟩ (Nat.le_of_ble_eq_true rfl) (Nat.le_of_ble_eq_true rfl) dX12_readSum_9
  · skip
    have hp_27 := hp_27 rfl
    have ha_29 : (mi 23).toInt - (mi 34).toInt ≤ nfrom_8.toInt - ncodes_13.toInt := ha_29
    have ha_30 : (mi 23).toInt + 1 ≤ nfrom_8.toInt := ha_30
    refine lv_iconst (pc := 4) (v := (-1)) E.1 E.2.1 dX12_readSum_4 (by decide +kernel) ?_
    refine lv_icmp_ne (pc := 5) (tgt := 10) E.1 E.2.1 dX12_readSum_5 (by decide) (fun _ => ?_) (fun c_32 => absurd c_32 (mneE (a := 0) (b := (-1)) (by decide +kernel) (by decide +kernel) (by omega)))
    have loop_33 : ∀ (k : Nat) (x_34 : Int32) (x_35 : Int32) (x_36 : Int32) (x_37 : Int32) (x_38 : Int32) (x_39 : Int32) (x_40 : Int32) (g_41 : Nat → Int32) (g_42 : Nat → Int32) (H : Heap) (locs : List Loc) (ls : Array Slot), (0 ≤ x_35.toInt) ∧ (x_35.toInt ≤ x_34.toInt) ∧ (x_34.toInt ≤ (mi 21).toInt) ∧ (0 ≤ x_36.toInt) ∧ (x_36.toInt ≤ 4) ∧ (x_36.toInt ≤ 4 * x_34.toInt - 4 * x_35.toInt) ∧ (0 ≤ x_38.toInt) ∧ (x_38.toInt ≤ x_35.toInt) ∧ ((mi 23).toInt - (mi 34).toInt ≤ x_35.toInt - x_38.toInt) ∧ ((mi 23).toInt + 1 ≤ x_35.toInt) ∧ (TX (mf 31) (mf 32) (800 + ((mi 34).toInt).toNat) g_41 g_42 (800 + (x_38.toInt).toNat)) ∧ (LW 0 0 g_41 g_42 (mf 28) (mf 29) (mf 30) ((mf 27) 0).toInt 400) ∧ (LW 16 400 g_41 g_42 (mf 28) (mf 29) (mf 30) ((mf 27) 1).toInt 400) → (mi 21).toInt - x_35.toInt < (k : Int) → WD D A s.heap (MW cI cJ M mr (upd (upd (upd (upd (upd (upd (upd mi 22 x_34) 23 x_35) 24 x_36) 25 x_37) 34 x_38) 38 x_39) 39 x_40) (va_up (va_up mf 31 g_41) 32 g_42) mg) H locs → lv_has ls 2 [(0, .ref M)] → W p l e ({ frames := 6, cells := 0, slots := 0, locals := 147 } : Room) s m ([.ref M] : List Value).toArray below meth c H locs 0 0 (MQ below (va_Qi (fun (r : Int32) (u : Int32 × Int32 × Int32 × Int32 × (Nat → Int32) × (Nat → Int32) × Int32 × Int32 × Int32) => (0 ≤ u.2.1.toInt) ∧ (u.2.1.toInt ≤ u.1.toInt) ∧ (u.1.toInt ≤ (mi 21).toInt) ∧ (0 ≤ u.2.2.1.toInt) ∧ (u.2.2.1.toInt ≤ 4) ∧ (u.2.2.1.toInt ≤ 4 * u.1.toInt - 4 * u.2.1.toInt) ∧ (0 ≤ u.2.2.2.2.2.2.1.toInt) ∧ (u.2.2.2.2.2.2.1.toInt ≤ u.2.1.toInt) ∧ (LW 0 0 u.2.2.2.2.1 u.2.2.2.2.2.1 (mf 28) (mf 29) (mf 30) ((mf 27) 0).toInt 400) ∧ (LW 16 400 u.2.2.2.2.1 u.2.2.2.2.2.1 (mf 28) (mf 29) (mf 30) ((mf 27) 1).toInt 400) ∧ (r = 0 → TX (mf 31) (mf 32) (800 + ((mi 34).toInt).toNat) u.2.2.2.2.1 u.2.2.2.2.2.1 (800 + (u.2.2.2.2.2.2.1.toInt).toNat)) ∧ ((r = (-1)) ∨ (r = 0 ∧ (mi 23).toInt - (mi 34).toInt ≤ u.2.1.toInt - u.2.2.2.2.2.2.1.toInt ∧ (mi 23).toInt + 1 ≤ u.2.1.toInt))) (fun u => QW D cI cJ A ((fun (u : Int32 × Int32 × Int32 × Int32 × (Nat → Int32) × (Nat → Int32) × Int32 × Int32 × Int32) => (MW cI cJ M mr (upd (upd (upd (upd (upd (upd (upd mi 22 u.1) 23 u.2.1) 24 u.2.2.1) 25 u.2.2.2.1) 34 u.2.2.2.2.2.2.1) 38 u.2.2.2.2.2.2.2.1) 39 u.2.2.2.2.2.2.2.2) (va_up (va_up mf 31 u.2.2.2.2.1) 32 u.2.2.2.2.2.1) mg)) u)) A) ([.ref M] : List Value).toArray s 0 0 A) (F0 m 10 ls []) := by
      intro k
      induction k with
      | zero =>
        intro x_34 x_35 x_36 x_37 x_38 x_39 x_40 g_41 g_42 _ _ _ hinv hm
        obtain ⟨hi_42_0, hi_42_1, hi_42_2, hi_42_3, hi_42_4, hi_42_5, hi_42_6, hi_42_7, hi_42_8, hi_42_9, hi_42_10, hi_42_11, hi_42_12⟩ := hinv
        exact absurd hm (by omega)
      | succ k ih_43 =>
        intro x_34 x_35 x_36 x_37 x_38 x_39 x_40 g_41 g_42 H locs ls hinv hm hw44 hl45
        obtain ⟨hi_42_0, hi_42_1, hi_42_2, hi_42_3, hi_42_4, hi_42_5, hi_42_6, hi_42_7, hi_42_8, hi_42_9, hi_42_10, hi_42_11, hi_42_12⟩ := hinv
        refine lv_aload_n (pc := 10) E.1 E.2.1 dX12_readSum_10 rfl (lv_at hl45 0 rfl) ?_
        refine lv_bipush (pc := 11) (v := 43) E.1 E.2.1 dX12_readSum_11 (by decide +kernel) ?_
        refine cm_i (pc := 13) hw44 (rn_M (As := [.int 43]) (rest := []) E hw44 (s_isSign2 l D cI cJ _ M mr (upd (upd (upd (upd (upd (upd (upd mi 22 x_34) 23 x_35) 24 x_36) 25 x_37) 34 x_38) 38 x_39) 39 x_40) (va_up (va_up mf 31 g_41) 32 g_42) mg 43) (gdV q_1718 q_1720 q_65 q_162 q_1721) hdV_X12_isSign ⟨rfl, rfl⟩ ⟨(Nat.le_of_ble_eq_true rfl), (Nat.le_of_ble_eq_true rfl)⟩ ⟨(Nat.le_of_ble_eq_true rfl), (Nat.le_of_ble_eq_true rfl)⟩ 12 rfl rfl rfl rfl hl45.1 rfl (Nat.le_of_ble_eq_true rfl) dX12_readSum_13) (fun r_47 u_46 H1 locs hp hw48 => ?_)
        generalize H1 = H at hw48 ⊢
        have hw49 : WD D A s.heap (MW cI cJ M mr (upd (upd (upd (upd (upd (upd (upd mi 22 x_34) 23 x_35) 24 x_36) 25 x_37) 34 x_38) 38 x_39) 39 x_40) (va_up (va_up mf 31 g_41) 32 g_42) mg) H locs := hw48
        have hp_50 := hp
        rcases hp_50 with ⟨rfl, ha_51, ha_52⟩ | rfl
        · skip
          have ha_51 : x_36.toInt = 4 := ha_51
          have ha_52 : x_37.toInt = (43 : Int32).toInt := ha_52
          rw [show (43 : Int32).toInt = 43 from by decide +kernel] at ha_52
          refine lv_if_ne (pc := 16) (tgt := 28) E.1 E.2.1 dX12_readSum_16 (by decide) (fun _ => ?_) (fun c_53 => absurd c_53 (mneE (a := 1) (b := 0) (by decide +kernel) (by decide +kernel) (by omega)))
          refine lv_aload_n (pc := 28) E.1 E.2.1 dX12_readSum_28 rfl (lv_at hl45 0 rfl) ?_
          refine x_get (pc := 29) (T := TX12) (N := 70) (ci := 12) (v := .int x_37) E hw49 inX12 0 25 q_1424 rfl rfl (by decide) rfl rfl dX12_readSum_29 ?_
          refine lv_bipush (pc := 32) (v := 43) E.1 E.2.1 dX12_readSum_32 (by decide +kernel) ?_
          refine lv_icmp_ne (pc := 34) (tgt := 41) E.1 E.2.1 dX12_readSum_34 (by decide) (fun c_54 => absurd (meqE (a := x_37.toInt) (b := 43) rfl (by decide +kernel) (by omega)) c_54) (fun _ => ?_)
          refine lv_iconst (pc := 37) (v := 2) E.1 E.2.1 dX12_readSum_37 (by decide +kernel) ?_
          refine lv_goto (pc := 38) (tgt := 42) E.1 E.2.1 dX12_readSum_38 (by decide) ?_
          refine lv_istore_n (pc := 42) (lv' := [(1, .int 2), (0, .ref M)]) E.1 E.2.1 dX12_readSum_42 rfl hl45 (by decide) rfl (fun ls hl55 => ?_)
          refine lv_aload_n (pc := 43) E.1 E.2.1 dX12_readSum_43 rfl (lv_at hl55 1 rfl) ?_
          refine cm_v (pc := 44) hw49 (rn_M (As := []) (rest := []) E hw49 (s_reads l D cI cJ _ M mr (upd (upd (upd (upd (upd (upd (upd mi 22 x_34) 23 x_35) 24 x_36) 25 x_37) 34 x_38) 38 x_39) 39 x_40) (va_up (va_up mf 31 g_41) 32 g_42) mg (by show 0 ≤ x_34.toInt; omega) hi_42_2 h3 h7) (gdV q_1666 q_1668 q_52 q_162 q_1669) hdV_X12_reads ⟨rfl, rfl⟩ ⟨(Nat.le_of_ble_eq_true rfl), (Nat.le_of_ble_eq_true rfl)⟩ ⟨(Nat.le_of_ble_eq_true rfl), (Nat.le_of_ble_eq_true rfl)⟩ 12 rfl rfl rfl rfl hl55.1 rfl (Nat.le_of_ble_eq_true rfl) dX12_readSum_44) (fun u_56 H1 locs hp hw58 => ?_)
          obtain ⟨nspot_59, nfrom_60, ntoken_61, nvalue_62⟩ := u_56
          generalize H1 = H at hw58 ⊢
          have hw63 : WD D A s.heap (MW cI cJ M mr (upd (upd (upd (upd (upd (upd (upd mi 22 nspot_59) 23 nfrom_60) 24 ntoken_61) 25 nvalue_62) 34 x_38) 38 x_39) 39 x_40) (va_up (va_up mf 31 g_41) 32 g_42) mg) H locs := hw58
          obtain ⟨hp_64, hp_65, hp_66, hp_67, hp_68, hp_69, hp_70⟩ := hp
          have hp_64 : 0 ≤ nfrom_60.toInt := hp_64
          have hp_65 : nfrom_60.toInt ≤ nspot_59.toInt := hp_65
          have hp_66 : nspot_59.toInt ≤ (mi 21).toInt := hp_66
          have hp_67 : 0 ≤ ntoken_61.toInt := hp_67
          have hp_68 : ntoken_61.toInt ≤ 4 := hp_68
          have hp_69 : ntoken_61.toInt ≤ 4 * nspot_59.toInt - 4 * nfrom_60.toInt := hp_69
          have hp_70 : x_34.toInt ≤ nfrom_60.toInt := hp_70
          refine lv_aload_n (pc := 47) E.1 E.2.1 dX12_readSum_47 rfl (lv_at hl55 1 rfl) ?_
          refine cm_i (pc := 48) hw63 (rn_M (As := []) (rest := []) E hw63 (s_readProduct l D cI cJ _ M mr (upd (upd (upd (upd (upd (upd (upd mi 22 nspot_59) 23 nfrom_60) 24 ntoken_61) 25 nvalue_62) 34 x_38) 38 x_39) 39 x_40) (va_up (va_up mf 31 g_41) 32 g_42) mg hp_64 hp_65 hp_66 h3 hp_67 hp_68 hp_69 h7 hi_42_6 (by show x_38.toInt ≤ nfrom_60.toInt; omega) (show LW 0 0 g_41 g_42 (mf 28) (mf 29) (mf 30) ((mf 27) 0).toInt 400 from hi_42_11) (show LW 16 400 g_41 g_42 (mf 28) (mf 29) (mf 30) ((mf 27) 1).toInt 400 from hi_42_12)) (gdV q_1774 q_1776 q_79 q_162 q_1777) hdV_X12_readProduct ⟨rfl, rfl⟩ ⟨(Nat.le_of_ble_eq_true rfl), (Nat.le_of_ble_eq_true rfl)⟩ ⟨(Nat.le_of_ble_eq_true rfl), (Nat.le_of_ble_eq_true rfl)⟩ 12 rfl rfl rfl rfl hl55.1 rfl (Nat.le_of_ble_eq_true rfl) dX12_readSum_48) (fun r_72 u_71 H1 locs hp hw73 => ?_)
          obtain ⟨nspot_74, nfrom_75, ntoken_76, nvalue_77, gop_78, garg_79, ncodes_80, nreadFault_81, nreadPlace_82⟩ := u_71
          generalize H1 = H at hw73 ⊢
          have hw83 : WD D A s.heap (MW cI cJ M mr (upd (upd (upd (upd (upd (upd (upd mi 22 nspot_74) 23 nfrom_75) 24 ntoken_76) 25 nvalue_77) 34 ncodes_80) 38 nreadFault_81) 39 nreadPlace_82) (va_up (va_up mf 31 gop_78) 32 garg_79) mg) H locs := hw73
          obtain ⟨hp_84, hp_85, hp_86, hp_87, hp_88, hp_89, hp_90, hp_91, hp_92, hp_93, hp_94, hp_95⟩ := hp
          have hp_84 : 0 ≤ nfrom_75.toInt := hp_84
          have hp_85 : nfrom_75.toInt ≤ nspot_74.toInt := hp_85
          have hp_86 : nspot_74.toInt ≤ (mi 21).toInt := hp_86
          have hp_87 : 0 ≤ ntoken_76.toInt := hp_87
          have hp_88 : ntoken_76.toInt ≤ 4 := hp_88
          have hp_89 : ntoken_76.toInt ≤ 4 * nspot_74.toInt - 4 * nfrom_75.toInt := hp_89
          have hp_90 : 0 ≤ ncodes_80.toInt := hp_90
          have hp_91 : ncodes_80.toInt ≤ nfrom_75.toInt := hp_91
          have hp_92 : LW 0 0 gop_78 garg_79 (mf 28) (mf 29) (mf 30) ((mf 27) 0).toInt 400 := hp_92
          have hp_93 : LW 16 400 gop_78 garg_79 (mf 28) (mf 29) (mf 30) ((mf 27) 1).toInt 400 := hp_93
          have hp_94 : r_72 = 0 → TX g_41 g_42 (800 + (x_38.toInt).toNat) gop_78 garg_79 (800 + (ncodes_80.toInt).toNat) := hp_94
          rcases hp_95 with rfl | ⟨rfl, ha_96, ha_97⟩
          · skip
            refine lv_iconst (pc := 51) (v := (-1)) E.1 E.2.1 dX12_readSum_51 (by decide +kernel) ?_
            refine lv_icmp_ne (pc := 52) (tgt := 57) E.1 E.2.1 dX12_readSum_52 (by decide) (fun c_98 => absurd (meqE (a := (-1)) (b := (-1)) (by decide +kernel) (by decide +kernel) (by omega)) c_98) (fun _ => ?_)
            refine lv_iconst (pc := 55) (v := (-1)) E.1 E.2.1 dX12_readSum_55 (by decide +kernel) ?_
            exact em_i (w1 := (fun (u : Int32 × Int32 × Int32 × Int32 × (Nat → Int32) × (Nat → Int32) × Int32 × Int32 × Int32) => (MW cI cJ M mr (upd (upd (upd (upd (upd (upd (upd mi 22 u.1) 23 u.2.1) 24 u.2.2.1) 25 u.2.2.2.1) 34 u.2.2.2.2.2.2.1) 38 u.2.2.2.2.2.2.2.1) 39 u.2.2.2.2.2.2.2.2) (va_up (va_up mf 31 u.2.2.2.2.1) 32 u.2.2.2.2.2.1) mg))) E hr hlk (nspot_74, nfrom_75, ntoken_76, nvalue_77, gop_78, garg_79, ncodes_80, nreadFault_81, nreadPlace_82) hw83 ⟨hp_84, hp_85, hp_86, hp_87, hp_88, hp_89, hp_90, hp_91, hp_92, hp_93, (fun h => absurd h (by decide +kernel)), (Or.inl rfl)⟩ (Nat.le_of_ble_eq_true rfl) (Nat.le_of_ble_eq_true rfl) dX12_readSum_56
          · skip
            have hp_94 := hp_94 rfl
            have ha_96 : nfrom_60.toInt - x_38.toInt ≤ nfrom_75.toInt - ncodes_80.toInt := ha_96
            have ha_97 : nfrom_60.toInt + 1 ≤ nfrom_75.toInt := ha_97
            refine lv_iconst (pc := 51) (v := (-1)) E.1 E.2.1 dX12_readSum_51 (by decide +kernel) ?_
            refine lv_icmp_ne (pc := 52) (tgt := 57) E.1 E.2.1 dX12_readSum_52 (by decide) (fun _ => ?_) (fun c_99 => absurd c_99 (mneE (a := 0) (b := (-1)) (by decide +kernel) (by decide +kernel) (by omega)))
            refine lv_aload_n (pc := 57) E.1 E.2.1 dX12_readSum_57 rfl (lv_at hl55 1 rfl) ?_
            refine lv_iload_n (pc := 58) E.1 E.2.1 dX12_readSum_58 rfl (lv_at hl55 0 rfl) ?_
            refine lv_iconst (pc := 59) (v := 0) E.1 E.2.1 dX12_readSum_59 (by decide +kernel) ?_
            refine cm_v (pc := 60) hw83 (rn_M (As := [.int 2, .int 0]) (rest := []) E hw83 (s_emits2 l D cI cJ _ M mr (upd (upd (upd (upd (upd (upd (upd mi 22 nspot_74) 23 nfrom_75) 24 ntoken_76) 25 nvalue_77) 34 ncodes_80) 38 nreadFault_81) 39 nreadPlace_82) (va_up (va_up mf 31 gop_78) 32 garg_79) mg 2 0 (by show 0 ≤ ncodes_80.toInt ∧ ncodes_80.toInt ≤ 399; omega) (show LW 0 0 gop_78 garg_79 (mf 28) (mf 29) (mf 30) ((mf 27) 0).toInt 400 from hp_92) (show LW 16 400 gop_78 garg_79 (mf 28) (mf 29) (mf 30) ((mf 27) 1).toInt 400 from hp_93)) (gdV q_1786 q_1788 q_82 q_162 q_1789) hdV_X12_emits ⟨rfl, rfl⟩ ⟨(Nat.le_of_ble_eq_true rfl), (Nat.le_of_ble_eq_true rfl)⟩ ⟨(Nat.le_of_ble_eq_true rfl), (Nat.le_of_ble_eq_true rfl)⟩ 12 rfl rfl rfl rfl hl55.1 rfl (Nat.le_of_ble_eq_true rfl) dX12_readSum_60) (fun u_100 H1 locs hp hw102 => ?_)
            obtain ⟨gop_103, garg_104, ncodes_105⟩ := u_100
            generalize H1 = H at hw102 ⊢
            have hw106 : WD D A s.heap (MW cI cJ M mr (upd (upd (upd (upd (upd (upd (upd mi 22 nspot_74) 23 nfrom_75) 24 ntoken_76) 25 nvalue_77) 34 ncodes_105) 38 nreadFault_81) 39 nreadPlace_82) (va_up (va_up mf 31 gop_103) 32 garg_104) mg) H locs := hw102
            obtain ⟨hp_107, hp_108, hp_109, hp_110⟩ := hp
            have hp_107 : ncodes_105.toInt = ncodes_80.toInt + 1 := hp_107
            have hp_108 : LW 0 0 gop_103 garg_104 (mf 28) (mf 29) (mf 30) ((mf 27) 0).toInt 400 := hp_108
            have hp_109 : LW 16 400 gop_103 garg_104 (mf 28) (mf 29) (mf 30) ((mf 27) 1).toInt 400 := hp_109
            have hp_110 : EM gop_78 garg_79 gop_103 garg_104 (800 + (ncodes_80.toInt).toNat) (2 : Int32) (0 : Int32) := hp_110
            refine lv_goto (pc := 63) (tgt := 10) E.1 E.2.1 dX12_readSum_63 (by decide) ?_
            exact ih_43 nspot_74 nfrom_75 ntoken_76 nvalue_77 ncodes_105 nreadFault_81 nreadPlace_82 gop_103 garg_104 _ _ _ ⟨hp_84, hp_85, hp_86, hp_87, hp_88, hp_89, (by show 0 ≤ ncodes_105.toInt; omega), (by show ncodes_105.toInt ≤ nfrom_75.toInt; omega), (by show (mi 23).toInt - (mi 34).toInt ≤ nfrom_75.toInt - ncodes_105.toInt; omega), (by show (mi 23).toInt + 1 ≤ nfrom_75.toInt; omega), (TX_two hi_42_10 hp_94 hp_110 ⟨by decide +kernel, by decide +kernel, by decide +kernel, fun h => absurd h (by decide +kernel)⟩ (by omega)), (show LW 0 0 gop_103 garg_104 (mf 28) (mf 29) (mf 30) ((mf 27) 0).toInt 400 from hp_108), (show LW 16 400 gop_103 garg_104 (mf 28) (mf 29) (mf 30) ((mf 27) 1).toInt 400 from hp_109)⟩ (by omega) hw106 (lv_sub hl55 [1] rfl)
        · skip
          refine lv_if_ne (pc := 16) (tgt := 28) E.1 E.2.1 dX12_readSum_16 (by decide) (fun c_111 => absurd (meqE (a := 0) (b := 0) (by decide +kernel) (by decide +kernel) (by omega)) c_111) (fun _ => ?_)
          refine lv_aload_n (pc := 19) E.1 E.2.1 dX12_readSum_19 rfl (lv_at hl45 0 rfl) ?_
          refine lv_bipush (pc := 20) (v := 45) E.1 E.2.1 dX12_readSum_20 (by decide +kernel) ?_
          refine cm_i (pc := 22) hw49 (rn_M (As := [.int 45]) (rest := []) E hw49 (s_isSign2 l D cI cJ _ M mr (upd (upd (upd (upd (upd (upd (upd mi 22 x_34) 23 x_35) 24 x_36) 25 x_37) 34 x_38) 38 x_39) 39 x_40) (va_up (va_up mf 31 g_41) 32 g_42) mg 45) (gdV q_1718 q_1720 q_65 q_162 q_1721) hdV_X12_isSign ⟨rfl, rfl⟩ ⟨(Nat.le_of_ble_eq_true rfl), (Nat.le_of_ble_eq_true rfl)⟩ ⟨(Nat.le_of_ble_eq_true rfl), (Nat.le_of_ble_eq_true rfl)⟩ 12 rfl rfl rfl rfl hl45.1 rfl (Nat.le_of_ble_eq_true rfl) dX12_readSum_22) (fun r_113 u_112 H1 locs hp hw114 => ?_)
          generalize H1 = H at hw114 ⊢
          have hw115 : WD D A s.heap (MW cI cJ M mr (upd (upd (upd (upd (upd (upd (upd mi 22 x_34) 23 x_35) 24 x_36) 25 x_37) 34 x_38) 38 x_39) 39 x_40) (va_up (va_up mf 31 g_41) 32 g_42) mg) H locs := hw114
          have hp_116 := hp
          rcases hp_116 with ⟨rfl, ha_117, ha_118⟩ | rfl
          · skip
            have ha_117 : x_36.toInt = 4 := ha_117
            have ha_118 : x_37.toInt = (45 : Int32).toInt := ha_118
            rw [show (45 : Int32).toInt = 45 from by decide +kernel] at ha_118
            refine lv_if_eq (pc := 25) (tgt := 66) E.1 E.2.1 dX12_readSum_25 (by decide) (fun c_119 => absurd c_119 (mneE (a := 1) (b := 0) (by decide +kernel) (by decide +kernel) (by omega))) (fun _ => ?_)
            refine lv_aload_n (pc := 28) E.1 E.2.1 dX12_readSum_28 rfl (lv_at hl45 0 rfl) ?_
            refine x_get (pc := 29) (T := TX12) (N := 70) (ci := 12) (v := .int x_37) E hw115 inX12 0 25 q_1424 rfl rfl (by decide) rfl rfl dX12_readSum_29 ?_
            refine lv_bipush (pc := 32) (v := 43) E.1 E.2.1 dX12_readSum_32 (by decide +kernel) ?_
            refine lv_icmp_ne (pc := 34) (tgt := 41) E.1 E.2.1 dX12_readSum_34 (by decide) (fun _ => ?_) (fun c_120 => absurd c_120 (mneE (a := x_37.toInt) (b := 43) rfl (by decide +kernel) (by omega)))
            refine lv_iconst (pc := 41) (v := 3) E.1 E.2.1 dX12_readSum_41 (by decide +kernel) ?_
            refine lv_istore_n (pc := 42) (lv' := [(1, .int 3), (0, .ref M)]) E.1 E.2.1 dX12_readSum_42 rfl hl45 (by decide) rfl (fun ls hl121 => ?_)
            refine lv_aload_n (pc := 43) E.1 E.2.1 dX12_readSum_43 rfl (lv_at hl121 1 rfl) ?_
            refine cm_v (pc := 44) hw115 (rn_M (As := []) (rest := []) E hw115 (s_reads l D cI cJ _ M mr (upd (upd (upd (upd (upd (upd (upd mi 22 x_34) 23 x_35) 24 x_36) 25 x_37) 34 x_38) 38 x_39) 39 x_40) (va_up (va_up mf 31 g_41) 32 g_42) mg (by show 0 ≤ x_34.toInt; omega) hi_42_2 h3 h7) (gdV q_1666 q_1668 q_52 q_162 q_1669) hdV_X12_reads ⟨rfl, rfl⟩ ⟨(Nat.le_of_ble_eq_true rfl), (Nat.le_of_ble_eq_true rfl)⟩ ⟨(Nat.le_of_ble_eq_true rfl), (Nat.le_of_ble_eq_true rfl)⟩ 12 rfl rfl rfl rfl hl121.1 rfl (Nat.le_of_ble_eq_true rfl) dX12_readSum_44) (fun u_122 H1 locs hp hw124 => ?_)
            obtain ⟨nspot_125, nfrom_126, ntoken_127, nvalue_128⟩ := u_122
            generalize H1 = H at hw124 ⊢
            have hw129 : WD D A s.heap (MW cI cJ M mr (upd (upd (upd (upd (upd (upd (upd mi 22 nspot_125) 23 nfrom_126) 24 ntoken_127) 25 nvalue_128) 34 x_38) 38 x_39) 39 x_40) (va_up (va_up mf 31 g_41) 32 g_42) mg) H locs := hw124
            obtain ⟨hp_130, hp_131, hp_132, hp_133, hp_134, hp_135, hp_136⟩ := hp
            have hp_130 : 0 ≤ nfrom_126.toInt := hp_130
            have hp_131 : nfrom_126.toInt ≤ nspot_125.toInt := hp_131
            have hp_132 : nspot_125.toInt ≤ (mi 21).toInt := hp_132
            have hp_133 : 0 ≤ ntoken_127.toInt := hp_133
            have hp_134 : ntoken_127.toInt ≤ 4 := hp_134
            have hp_135 : ntoken_127.toInt ≤ 4 * nspot_125.toInt - 4 * nfrom_126.toInt := hp_135
            have hp_136 : x_34.toInt ≤ nfrom_126.toInt := hp_136
            refine lv_aload_n (pc := 47) E.1 E.2.1 dX12_readSum_47 rfl (lv_at hl121 1 rfl) ?_
            refine cm_i (pc := 48) hw129 (rn_M (As := []) (rest := []) E hw129 (s_readProduct l D cI cJ _ M mr (upd (upd (upd (upd (upd (upd (upd mi 22 nspot_125) 23 nfrom_126) 24 ntoken_127) 25 nvalue_128) 34 x_38) 38 x_39) 39 x_40) (va_up (va_up mf 31 g_41) 32 g_42) mg hp_130 hp_131 hp_132 h3 hp_133 hp_134 hp_135 h7 hi_42_6 (by show x_38.toInt ≤ nfrom_126.toInt; omega) (show LW 0 0 g_41 g_42 (mf 28) (mf 29) (mf 30) ((mf 27) 0).toInt 400 from hi_42_11) (show LW 16 400 g_41 g_42 (mf 28) (mf 29) (mf 30) ((mf 27) 1).toInt 400 from hi_42_12)) (gdV q_1774 q_1776 q_79 q_162 q_1777) hdV_X12_readProduct ⟨rfl, rfl⟩ ⟨(Nat.le_of_ble_eq_true rfl), (Nat.le_of_ble_eq_true rfl)⟩ ⟨(Nat.le_of_ble_eq_true rfl), (Nat.le_of_ble_eq_true rfl)⟩ 12 rfl rfl rfl rfl hl121.1 rfl (Nat.le_of_ble_eq_true rfl) dX12_readSum_48) (fun r_138 u_137 H1 locs hp hw139 => ?_)
            obtain ⟨nspot_140, nfrom_141, ntoken_142, nvalue_143, gop_144, garg_145, ncodes_146, nreadFault_147, nreadPlace_148⟩ := u_137
            generalize H1 = H at hw139 ⊢
            have hw149 : WD D A s.heap (MW cI cJ M mr (upd (upd (upd (upd (upd (upd (upd mi 22 nspot_140) 23 nfrom_141) 24 ntoken_142) 25 nvalue_143) 34 ncodes_146) 38 nreadFault_147) 39 nreadPlace_148) (va_up (va_up mf 31 gop_144) 32 garg_145) mg) H locs := hw139
            obtain ⟨hp_150, hp_151, hp_152, hp_153, hp_154, hp_155, hp_156, hp_157, hp_158, hp_159, hp_160, hp_161⟩ := hp
            have hp_150 : 0 ≤ nfrom_141.toInt := hp_150
            have hp_151 : nfrom_141.toInt ≤ nspot_140.toInt := hp_151
            have hp_152 : nspot_140.toInt ≤ (mi 21).toInt := hp_152
            have hp_153 : 0 ≤ ntoken_142.toInt := hp_153
            have hp_154 : ntoken_142.toInt ≤ 4 := hp_154
            have hp_155 : ntoken_142.toInt ≤ 4 * nspot_140.toInt - 4 * nfrom_141.toInt := hp_155
            have hp_156 : 0 ≤ ncodes_146.toInt := hp_156
            have hp_157 : ncodes_146.toInt ≤ nfrom_141.toInt := hp_157
            have hp_158 : LW 0 0 gop_144 garg_145 (mf 28) (mf 29) (mf 30) ((mf 27) 0).toInt 400 := hp_158
            have hp_159 : LW 16 400 gop_144 garg_145 (mf 28) (mf 29) (mf 30) ((mf 27) 1).toInt 400 := hp_159
            have hp_160 : r_138 = 0 → TX g_41 g_42 (800 + (x_38.toInt).toNat) gop_144 garg_145 (800 + (ncodes_146.toInt).toNat) := hp_160
            rcases hp_161 with rfl | ⟨rfl, ha_162, ha_163⟩
            · skip
              refine lv_iconst (pc := 51) (v := (-1)) E.1 E.2.1 dX12_readSum_51 (by decide +kernel) ?_
              refine lv_icmp_ne (pc := 52) (tgt := 57) E.1 E.2.1 dX12_readSum_52 (by decide) (fun c_164 => absurd (meqE (a := (-1)) (b := (-1)) (by decide +kernel) (by decide +kernel) (by omega)) c_164) (fun _ => ?_)
              refine lv_iconst (pc := 55) (v := (-1)) E.1 E.2.1 dX12_readSum_55 (by decide +kernel) ?_
              exact em_i (w1 := (fun (u : Int32 × Int32 × Int32 × Int32 × (Nat → Int32) × (Nat → Int32) × Int32 × Int32 × Int32) => (MW cI cJ M mr (upd (upd (upd (upd (upd (upd (upd mi 22 u.1) 23 u.2.1) 24 u.2.2.1) 25 u.2.2.2.1) 34 u.2.2.2.2.2.2.1) 38 u.2.2.2.2.2.2.2.1) 39 u.2.2.2.2.2.2.2.2) (va_up (va_up mf 31 u.2.2.2.2.1) 32 u.2.2.2.2.2.1) mg))) E hr hlk (nspot_140, nfrom_141, ntoken_142, nvalue_143, gop_144, garg_145, ncodes_146, nreadFault_147, nreadPlace_148) hw149 ⟨hp_150, hp_151, hp_152, hp_153, hp_154, hp_155, hp_156, hp_157, hp_158, hp_159, (fun h => absurd h (by decide +kernel)), (Or.inl rfl)⟩ (Nat.le_of_ble_eq_true rfl) (Nat.le_of_ble_eq_true rfl) dX12_readSum_56
            · skip
              have hp_160 := hp_160 rfl
              have ha_162 : nfrom_126.toInt - x_38.toInt ≤ nfrom_141.toInt - ncodes_146.toInt := ha_162
              have ha_163 : nfrom_126.toInt + 1 ≤ nfrom_141.toInt := ha_163
              refine lv_iconst (pc := 51) (v := (-1)) E.1 E.2.1 dX12_readSum_51 (by decide +kernel) ?_
              refine lv_icmp_ne (pc := 52) (tgt := 57) E.1 E.2.1 dX12_readSum_52 (by decide) (fun _ => ?_) (fun c_165 => absurd c_165 (mneE (a := 0) (b := (-1)) (by decide +kernel) (by decide +kernel) (by omega)))
              refine lv_aload_n (pc := 57) E.1 E.2.1 dX12_readSum_57 rfl (lv_at hl121 1 rfl) ?_
              refine lv_iload_n (pc := 58) E.1 E.2.1 dX12_readSum_58 rfl (lv_at hl121 0 rfl) ?_
              refine lv_iconst (pc := 59) (v := 0) E.1 E.2.1 dX12_readSum_59 (by decide +kernel) ?_
              refine cm_v (pc := 60) hw149 (rn_M (As := [.int 3, .int 0]) (rest := []) E hw149 (s_emits2 l D cI cJ _ M mr (upd (upd (upd (upd (upd (upd (upd mi 22 nspot_140) 23 nfrom_141) 24 ntoken_142) 25 nvalue_143) 34 ncodes_146) 38 nreadFault_147) 39 nreadPlace_148) (va_up (va_up mf 31 gop_144) 32 garg_145) mg 3 0 (by show 0 ≤ ncodes_146.toInt ∧ ncodes_146.toInt ≤ 399; omega) (show LW 0 0 gop_144 garg_145 (mf 28) (mf 29) (mf 30) ((mf 27) 0).toInt 400 from hp_158) (show LW 16 400 gop_144 garg_145 (mf 28) (mf 29) (mf 30) ((mf 27) 1).toInt 400 from hp_159)) (gdV q_1786 q_1788 q_82 q_162 q_1789) hdV_X12_emits ⟨rfl, rfl⟩ ⟨(Nat.le_of_ble_eq_true rfl), (Nat.le_of_ble_eq_true rfl)⟩ ⟨(Nat.le_of_ble_eq_true rfl), (Nat.le_of_ble_eq_true rfl)⟩ 12 rfl rfl rfl rfl hl121.1 rfl (Nat.le_of_ble_eq_true rfl) dX12_readSum_60) (fun u_166 H1 locs hp hw168 => ?_)
              obtain ⟨gop_169, garg_170, ncodes_171⟩ := u_166
              generalize H1 = H at hw168 ⊢
              have hw172 : WD D A s.heap (MW cI cJ M mr (upd (upd (upd (upd (upd (upd (upd mi 22 nspot_140) 23 nfrom_141) 24 ntoken_142) 25 nvalue_143) 34 ncodes_171) 38 nreadFault_147) 39 nreadPlace_148) (va_up (va_up mf 31 gop_169) 32 garg_170) mg) H locs := hw168
              obtain ⟨hp_173, hp_174, hp_175, hp_176⟩ := hp
              have hp_173 : ncodes_171.toInt = ncodes_146.toInt + 1 := hp_173
              have hp_174 : LW 0 0 gop_169 garg_170 (mf 28) (mf 29) (mf 30) ((mf 27) 0).toInt 400 := hp_174
              have hp_175 : LW 16 400 gop_169 garg_170 (mf 28) (mf 29) (mf 30) ((mf 27) 1).toInt 400 := hp_175
              have hp_176 : EM gop_144 garg_145 gop_169 garg_170 (800 + (ncodes_146.toInt).toNat) (3 : Int32) (0 : Int32) := hp_176
              refine lv_goto (pc := 63) (tgt := 10) E.1 E.2.1 dX12_readSum_63 (by decide) ?_
              exact ih_43 nspot_140 nfrom_141 ntoken_142 nvalue_143 ncodes_171 nreadFault_147 nreadPlace_148 gop_169 garg_170 _ _ _ ⟨hp_150, hp_151, hp_152, hp_153, hp_154, hp_155, (by show 0 ≤ ncodes_171.toInt; omega), (by show ncodes_171.toInt ≤ nfrom_141.toInt; omega), (by show (mi 23).toInt - (mi 34).toInt ≤ nfrom_141.toInt - ncodes_171.toInt; omega), (by show (mi 23).toInt + 1 ≤ nfrom_141.toInt; omega), (TX_two hi_42_10 hp_160 hp_176 ⟨by decide +kernel, by decide +kernel, by decide +kernel, fun h => absurd h (by decide +kernel)⟩ (by omega)), (show LW 0 0 gop_169 garg_170 (mf 28) (mf 29) (mf 30) ((mf 27) 0).toInt 400 from hp_174), (show LW 16 400 gop_169 garg_170 (mf 28) (mf 29) (mf 30) ((mf 27) 1).toInt 400 from hp_175)⟩ (by omega) hw172 (lv_sub hl121 [1] rfl)
          · skip
            refine lv_if_eq (pc := 25) (tgt := 66) E.1 E.2.1 dX12_readSum_25 (by decide) (fun _ => ?_) (fun c_177 => absurd (meqE (a := 0) (b := 0) (by decide +kernel) (by decide +kernel) (by omega)) c_177)
            refine lv_iconst (pc := 66) (v := 0) E.1 E.2.1 dX12_readSum_66 (by decide +kernel) ?_
            exact em_i (w1 := (fun (u : Int32 × Int32 × Int32 × Int32 × (Nat → Int32) × (Nat → Int32) × Int32 × Int32 × Int32) => (MW cI cJ M mr (upd (upd (upd (upd (upd (upd (upd mi 22 u.1) 23 u.2.1) 24 u.2.2.1) 25 u.2.2.2.1) 34 u.2.2.2.2.2.2.1) 38 u.2.2.2.2.2.2.2.1) 39 u.2.2.2.2.2.2.2.2) (va_up (va_up mf 31 u.2.2.2.2.1) 32 u.2.2.2.2.2.1) mg))) E hr hlk (x_34, x_35, x_36, x_37, g_41, g_42, x_38, x_39, x_40) hw115 ⟨hi_42_0, hi_42_1, hi_42_2, hi_42_3, hi_42_4, hi_42_5, hi_42_6, hi_42_7, hi_42_11, hi_42_12, (fun _ => (show TX (mf 31) (mf 32) (800 + ((mi 34).toInt).toNat) g_41 g_42 (800 + (x_38.toInt).toNat) from hi_42_10)), (Or.inr (⟨rfl, hi_42_8, hi_42_9⟩))⟩ (Nat.le_of_ble_eq_true rfl) (Nat.le_of_ble_eq_true rfl) dX12_readSum_67
    exact loop_33 (Int.toNat ((mi 21).toInt - nfrom_8.toInt) + 1) nspot_7 nfrom_8 ntoken_9 nvalue_10 ncodes_13 nreadFault_14 nreadPlace_15 gop_11 garg_12 _ _ _ ⟨hp_17, hp_18, hp_19, hp_20, hp_21, hp_22, hp_23, hp_24, (by show (mi 23).toInt - (mi 34).toInt ≤ nfrom_8.toInt - ncodes_13.toInt; omega), (by show (mi 23).toInt + 1 ≤ nfrom_8.toInt; omega), hp_27, (show LW 0 0 gop_11 garg_12 (mf 28) (mf 29) (mf 30) ((mf 27) 0).toInt 400 from hp_25), (show LW 16 400 gop_11 garg_12 (mf 28) (mf 29) (mf 30) ((mf 27) 1).toInt 400 from hp_26)⟩ (by omega) hw16 (lv_sub hl3 [0] rfl)

set_option maxHeartbeats 4000000 in
set_option maxRecDepth 100000 in
theorem s_readCompared (l : Launch) (D : va_G) (cI cJ : ClassId) (sz M : Nat) (mr : Nat → Nat) (mi : Nat → Int32) (mf : Nat → Nat → Int32) (mg : Nat → Nat → Int64)  (h0 : 0 ≤ (mi 23).toInt) (h1 : (mi 23).toInt ≤ (mi 22).toInt) (h2 : (mi 22).toInt ≤ (mi 21).toInt) (h3 : (mi 21).toInt ≤ 400) (h4 : 0 ≤ (mi 24).toInt) (h5 : (mi 24).toInt ≤ 4) (h6 : (mi 24).toInt ≤ 4 * (mi 22).toInt - 4 * (mi 23).toInt) (h7 : ((mf 26) 153).toInt = 32) (h8 : 0 ≤ (mi 34).toInt) (h9 : (mi 34).toInt ≤ (mi 23).toInt) (lf_law0 : LW 0 0 (mf 31) (mf 32) (mf 28) (mf 29) (mf 30) ((mf 27) 0).toInt 400) (lf_law1 : LW 16 400 (mf 31) (mf 32) (mf 28) (mf 29) (mf 30) ((mf 27) 1).toInt 400) : Met l yX12_readCompared (Cond.code yX12_readCompared cX12_readCompared 2 (some .int) :: GW) ({ frames := 7, cells := 0, slots := 0, locals := 168 } : Room) (va_Pc [.ref M] (PW D cI cJ sz (MW cI cJ M mr mi mf mg) xT)) (va_Qi (fun (r : Int32) (u : Int32 × Int32 × Int32 × Int32 × (Nat → Int32) × (Nat → Int32) × Int32 × Int32 × Int32) => (0 ≤ u.2.1.toInt) ∧ (u.2.1.toInt ≤ u.1.toInt) ∧ (u.1.toInt ≤ (mi 21).toInt) ∧ (0 ≤ u.2.2.1.toInt) ∧ (u.2.2.1.toInt ≤ 4) ∧ (u.2.2.1.toInt ≤ 4 * u.1.toInt - 4 * u.2.1.toInt) ∧ (0 ≤ u.2.2.2.2.2.2.1.toInt) ∧ (u.2.2.2.2.2.2.1.toInt ≤ u.2.1.toInt) ∧ (LW 0 0 u.2.2.2.2.1 u.2.2.2.2.2.1 (mf 28) (mf 29) (mf 30) ((mf 27) 0).toInt 400) ∧ (LW 16 400 u.2.2.2.2.1 u.2.2.2.2.2.1 (mf 28) (mf 29) (mf 30) ((mf 27) 1).toInt 400) ∧ (r = 0 → TX (mf 31) (mf 32) (800 + ((mi 34).toInt).toNat) u.2.2.2.2.1 u.2.2.2.2.2.1 (800 + (u.2.2.2.2.2.2.1.toInt).toNat)) ∧ ((r = (-1)) ∨ (r = 0 ∧ (mi 23).toInt - (mi 34).toInt ≤ u.2.1.toInt - u.2.2.2.2.2.2.1.toInt ∧ (mi 23).toInt + 1 ≤ u.2.1.toInt))) (fun u => QW D cI cJ (va_A (MW cI cJ M mr mi mf mg) sz) ((fun (u : Int32 × Int32 × Int32 × Int32 × (Nat → Int32) × (Nat → Int32) × Int32 × Int32 × Int32) => (MW cI cJ M mr (upd (upd (upd (upd (upd (upd (upd mi 22 u.1) 23 u.2.1) 24 u.2.2.1) 25 u.2.2.2.1) 34 u.2.2.2.2.2.2.1) 38 u.2.2.2.2.2.2.2.1) 39 u.2.2.2.2.2.2.2.2) (va_up (va_up mf 31 u.2.2.2.2.1) 32 u.2.2.2.2.2.1) mg)) u)) (va_A (MW cI cJ M mr mi mf mg) sz)) 0 0 (va_A (MW cI cJ M mr mi mf mg) sz) := by
  refine mk_met (y := yX12_readCompared) (bytes := cX12_readCompared) (maxL := 2) (avs := [.ref M]) (WS := (MW cI cJ M mr mi mf mg)) (Qf := fun A => va_Qi (fun (r : Int32) (u : Int32 × Int32 × Int32 × Int32 × (Nat → Int32) × (Nat → Int32) × Int32 × Int32 × Int32) => (0 ≤ u.2.1.toInt) ∧ (u.2.1.toInt ≤ u.1.toInt) ∧ (u.1.toInt ≤ (mi 21).toInt) ∧ (0 ≤ u.2.2.1.toInt) ∧ (u.2.2.1.toInt ≤ 4) ∧ (u.2.2.1.toInt ≤ 4 * u.1.toInt - 4 * u.2.1.toInt) ∧ (0 ≤ u.2.2.2.2.2.2.1.toInt) ∧ (u.2.2.2.2.2.2.1.toInt ≤ u.2.1.toInt) ∧ (LW 0 0 u.2.2.2.2.1 u.2.2.2.2.2.1 (mf 28) (mf 29) (mf 30) ((mf 27) 0).toInt 400) ∧ (LW 16 400 u.2.2.2.2.1 u.2.2.2.2.2.1 (mf 28) (mf 29) (mf 30) ((mf 27) 1).toInt 400) ∧ (r = 0 → TX (mf 31) (mf 32) (800 + ((mi 34).toInt).toNat) u.2.2.2.2.1 u.2.2.2.2.2.1 (800 + (u.2.2.2.2.2.2.1.toInt).toNat)) ∧ ((r = (-1)) ∨ (r = 0 ∧ (mi 23).toInt - (mi 34).toInt ≤ u.2.1.toInt - u.2.2.2.2.2.2.1.toInt ∧ (mi 23).toInt + 1 ≤ u.2.1.toInt))) (fun u => QW D cI cJ A ((fun (u : Int32 × Int32 × Int32 × Int32 × (Nat → Int32) × (Nat → Int32) × Int32 × Int32 × Int32) => (MW cI cJ M mr (upd (upd (upd (upd (upd (upd (upd mi 22 u.1) 23 u.2.1) 24 u.2.2.1) 25 u.2.2.2.1) 34 u.2.2.2.2.2.2.1) 38 u.2.2.2.2.2.2.2.1) 39 u.2.2.2.2.2.2.2.2) (va_up (va_up mf 31 u.2.2.2.2.1) 32 u.2.2.2.2.2.1) mg)) u)) A) (by decide) (Nat.le_of_ble_eq_true rfl) ?_
  intro p e s m below meth c A ls E hr hlk hnm hX hw1 hl2
  have hl3 : lv_has ls 2 [(0, .ref M)] := hl2
  refine lv_aload_n (pc := 0) E.1 E.2.1 dX12_readCompared_0 rfl (lv_at hl3 0 rfl) ?_
  refine cm_i (pc := 1) hw1 (rn_M (As := []) (rest := []) E hw1 (s_readSum l D cI cJ _ M mr mi mf mg h0 h1 h2 h3 h4 h5 h6 h7 h8 h9 (show LW 0 0 (mf 31) (mf 32) (mf 28) (mf 29) (mf 30) ((mf 27) 0).toInt 400 from lf_law0) (show LW 16 400 (mf 31) (mf 32) (mf 28) (mf 29) (mf 30) ((mf 27) 1).toInt 400 from lf_law1)) (gdV q_1770 q_1772 q_78 q_162 q_1773) hdV_X12_readSum ⟨rfl, rfl⟩ ⟨(Nat.le_of_ble_eq_true rfl), (Nat.le_of_ble_eq_true rfl)⟩ ⟨(Nat.le_of_ble_eq_true rfl), (Nat.le_of_ble_eq_true rfl)⟩ 12 rfl rfl rfl rfl hl3.1 rfl (Nat.le_of_ble_eq_true rfl) dX12_readCompared_1) (fun r_5 u_4 H1 locs hp hw6 => ?_)
  obtain ⟨nspot_7, nfrom_8, ntoken_9, nvalue_10, gop_11, garg_12, ncodes_13, nreadFault_14, nreadPlace_15⟩ := u_4
  generalize H1 = H at hw6 ⊢
  have hw16 : WD D A s.heap (MW cI cJ M mr (upd (upd (upd (upd (upd (upd (upd mi 22 nspot_7) 23 nfrom_8) 24 ntoken_9) 25 nvalue_10) 34 ncodes_13) 38 nreadFault_14) 39 nreadPlace_15) (va_up (va_up mf 31 gop_11) 32 garg_12) mg) H locs := hw6
  obtain ⟨hp_17, hp_18, hp_19, hp_20, hp_21, hp_22, hp_23, hp_24, hp_25, hp_26, hp_27, hp_28⟩ := hp
  have hp_17 : 0 ≤ nfrom_8.toInt := hp_17
  have hp_18 : nfrom_8.toInt ≤ nspot_7.toInt := hp_18
  have hp_19 : nspot_7.toInt ≤ (mi 21).toInt := hp_19
  have hp_20 : 0 ≤ ntoken_9.toInt := hp_20
  have hp_21 : ntoken_9.toInt ≤ 4 := hp_21
  have hp_22 : ntoken_9.toInt ≤ 4 * nspot_7.toInt - 4 * nfrom_8.toInt := hp_22
  have hp_23 : 0 ≤ ncodes_13.toInt := hp_23
  have hp_24 : ncodes_13.toInt ≤ nfrom_8.toInt := hp_24
  have hp_25 : LW 0 0 gop_11 garg_12 (mf 28) (mf 29) (mf 30) ((mf 27) 0).toInt 400 := hp_25
  have hp_26 : LW 16 400 gop_11 garg_12 (mf 28) (mf 29) (mf 30) ((mf 27) 1).toInt 400 := hp_26
  have hp_27 : r_5 = 0 → TX (mf 31) (mf 32) (800 + ((mi 34).toInt).toNat) gop_11 garg_12 (800 + (ncodes_13.toInt).toNat) := hp_27
  rcases hp_28 with rfl | ⟨rfl, ha_29, ha_30⟩
  · skip
    refine lv_iconst (pc := 4) (v := (-1)) E.1 E.2.1 dX12_readCompared_4 (by decide +kernel) ?_
    refine lv_icmp_ne (pc := 5) (tgt := 10) E.1 E.2.1 dX12_readCompared_5 (by decide) (fun c_31 => absurd (meqE (a := (-1)) (b := (-1)) (by decide +kernel) (by decide +kernel) (by omega)) c_31) (fun _ => ?_)
    refine lv_iconst (pc := 8) (v := (-1)) E.1 E.2.1 dX12_readCompared_8 (by decide +kernel) ?_
    exact em_i (w1 := (fun (u : Int32 × Int32 × Int32 × Int32 × (Nat → Int32) × (Nat → Int32) × Int32 × Int32 × Int32) => (MW cI cJ M mr (upd (upd (upd (upd (upd (upd (upd mi 22 u.1) 23 u.2.1) 24 u.2.2.1) 25 u.2.2.2.1) 34 u.2.2.2.2.2.2.1) 38 u.2.2.2.2.2.2.2.1) 39 u.2.2.2.2.2.2.2.2) (va_up (va_up mf 31 u.2.2.2.2.1) 32 u.2.2.2.2.2.1) mg))) E hr hlk (nspot_7, nfrom_8, ntoken_9, nvalue_10, gop_11, garg_12, ncodes_13, nreadFault_14, nreadPlace_15) hw16 ⟨hp_17, hp_18, hp_19, hp_20, hp_21, hp_22, hp_23, hp_24, hp_25, hp_26, (fun h => absurd h (by decide +kernel)), (Or.inl rfl)⟩ (Nat.le_of_ble_eq_true rfl) (Nat.le_of_ble_eq_true rfl) dX12_readCompared_9
  · skip
    have hp_27 := hp_27 rfl
    have ha_29 : (mi 23).toInt - (mi 34).toInt ≤ nfrom_8.toInt - ncodes_13.toInt := ha_29
    have ha_30 : (mi 23).toInt + 1 ≤ nfrom_8.toInt := ha_30
    refine lv_iconst (pc := 4) (v := (-1)) E.1 E.2.1 dX12_readCompared_4 (by decide +kernel) ?_
    refine lv_icmp_ne (pc := 5) (tgt := 10) E.1 E.2.1 dX12_readCompared_5 (by decide) (fun _ => ?_) (fun c_32 => absurd c_32 (mneE (a := 0) (b := (-1)) (by decide +kernel) (by decide +kernel) (by omega)))
    refine lv_aload_n (pc := 10) E.1 E.2.1 dX12_readCompared_10 rfl (lv_at hl3 0 rfl) ?_
    refine lv_bipush (pc := 11) (v := 60) E.1 E.2.1 dX12_readCompared_11 (by decide +kernel) ?_
    refine cm_i (pc := 13) hw16 (rn_M (As := [.int 60]) (rest := []) E hw16 (s_isSign2 l D cI cJ _ M mr (upd (upd (upd (upd (upd (upd (upd mi 22 nspot_7) 23 nfrom_8) 24 ntoken_9) 25 nvalue_10) 34 ncodes_13) 38 nreadFault_14) 39 nreadPlace_15) (va_up (va_up mf 31 gop_11) 32 garg_12) mg 60) (gdV q_1718 q_1720 q_65 q_162 q_1721) hdV_X12_isSign ⟨rfl, rfl⟩ ⟨(Nat.le_of_ble_eq_true rfl), (Nat.le_of_ble_eq_true rfl)⟩ ⟨(Nat.le_of_ble_eq_true rfl), (Nat.le_of_ble_eq_true rfl)⟩ 12 rfl rfl rfl rfl hl3.1 rfl (Nat.le_of_ble_eq_true rfl) dX12_readCompared_13) (fun r_34 u_33 H1 locs hp hw35 => ?_)
    generalize H1 = H at hw35 ⊢
    have hw36 : WD D A s.heap (MW cI cJ M mr (upd (upd (upd (upd (upd (upd (upd mi 22 nspot_7) 23 nfrom_8) 24 ntoken_9) 25 nvalue_10) 34 ncodes_13) 38 nreadFault_14) 39 nreadPlace_15) (va_up (va_up mf 31 gop_11) 32 garg_12) mg) H locs := hw35
    have hp_37 := hp
    rcases hp_37 with ⟨rfl, ha_38, ha_39⟩ | rfl
    · skip
      have ha_38 : ntoken_9.toInt = 4 := ha_38
      have ha_39 : nvalue_10.toInt = (60 : Int32).toInt := ha_39
      rw [show (60 : Int32).toInt = 60 from by decide +kernel] at ha_39
      refine lv_if_ne (pc := 16) (tgt := 43) E.1 E.2.1 dX12_readCompared_16 (by decide) (fun _ => ?_) (fun c_40 => absurd c_40 (mneE (a := 1) (b := 0) (by decide +kernel) (by decide +kernel) (by omega)))
      refine lv_aload_n (pc := 43) E.1 E.2.1 dX12_readCompared_43 rfl (lv_at hl3 0 rfl) ?_
      refine x_get (pc := 44) (T := TX12) (N := 70) (ci := 12) (v := .int nvalue_10) E hw36 inX12 0 25 q_1424 rfl rfl (by decide) rfl rfl dX12_readCompared_44 ?_
      refine lv_bipush (pc := 47) (v := 60) E.1 E.2.1 dX12_readCompared_47 (by decide +kernel) ?_
      refine lv_icmp_ne (pc := 49) (tgt := 57) E.1 E.2.1 dX12_readCompared_49 (by decide) (fun c_41 => absurd (meqE (a := nvalue_10.toInt) (b := 60) rfl (by decide +kernel) (by omega)) c_41) (fun _ => ?_)
      refine lv_bipush (pc := 52) (v := 6) E.1 E.2.1 dX12_readCompared_52 (by decide +kernel) ?_
      refine lv_goto (pc := 54) (tgt := 73) E.1 E.2.1 dX12_readCompared_54 (by decide) ?_
      refine lv_istore_n (pc := 73) (lv' := [(1, .int 6), (0, .ref M)]) E.1 E.2.1 dX12_readCompared_73 rfl hl3 (by decide) rfl (fun ls hl42 => ?_)
      refine lv_aload_n (pc := 74) E.1 E.2.1 dX12_readCompared_74 rfl (lv_at hl42 1 rfl) ?_
      refine cm_v (pc := 75) hw36 (rn_M (As := []) (rest := []) E hw36 (s_reads l D cI cJ _ M mr (upd (upd (upd (upd (upd (upd (upd mi 22 nspot_7) 23 nfrom_8) 24 ntoken_9) 25 nvalue_10) 34 ncodes_13) 38 nreadFault_14) 39 nreadPlace_15) (va_up (va_up mf 31 gop_11) 32 garg_12) mg (by show 0 ≤ nspot_7.toInt; omega) hp_19 h3 h7) (gdV q_1666 q_1668 q_52 q_162 q_1669) hdV_X12_reads ⟨rfl, rfl⟩ ⟨(Nat.le_of_ble_eq_true rfl), (Nat.le_of_ble_eq_true rfl)⟩ ⟨(Nat.le_of_ble_eq_true rfl), (Nat.le_of_ble_eq_true rfl)⟩ 12 rfl rfl rfl rfl hl42.1 rfl (Nat.le_of_ble_eq_true rfl) dX12_readCompared_75) (fun u_43 H1 locs hp hw45 => ?_)
      obtain ⟨nspot_46, nfrom_47, ntoken_48, nvalue_49⟩ := u_43
      generalize H1 = H at hw45 ⊢
      have hw50 : WD D A s.heap (MW cI cJ M mr (upd (upd (upd (upd (upd (upd (upd mi 22 nspot_46) 23 nfrom_47) 24 ntoken_48) 25 nvalue_49) 34 ncodes_13) 38 nreadFault_14) 39 nreadPlace_15) (va_up (va_up mf 31 gop_11) 32 garg_12) mg) H locs := hw45
      obtain ⟨hp_51, hp_52, hp_53, hp_54, hp_55, hp_56, hp_57⟩ := hp
      have hp_51 : 0 ≤ nfrom_47.toInt := hp_51
      have hp_52 : nfrom_47.toInt ≤ nspot_46.toInt := hp_52
      have hp_53 : nspot_46.toInt ≤ (mi 21).toInt := hp_53
      have hp_54 : 0 ≤ ntoken_48.toInt := hp_54
      have hp_55 : ntoken_48.toInt ≤ 4 := hp_55
      have hp_56 : ntoken_48.toInt ≤ 4 * nspot_46.toInt - 4 * nfrom_47.toInt := hp_56
      have hp_57 : nspot_7.toInt ≤ nfrom_47.toInt := hp_57
      refine lv_aload_n (pc := 78) E.1 E.2.1 dX12_readCompared_78 rfl (lv_at hl42 1 rfl) ?_
      refine cm_i (pc := 79) hw50 (rn_M (As := []) (rest := []) E hw50 (s_readSum l D cI cJ _ M mr (upd (upd (upd (upd (upd (upd (upd mi 22 nspot_46) 23 nfrom_47) 24 ntoken_48) 25 nvalue_49) 34 ncodes_13) 38 nreadFault_14) 39 nreadPlace_15) (va_up (va_up mf 31 gop_11) 32 garg_12) mg hp_51 hp_52 hp_53 h3 hp_54 hp_55 hp_56 h7 hp_23 (by show ncodes_13.toInt ≤ nfrom_47.toInt; omega) (show LW 0 0 gop_11 garg_12 (mf 28) (mf 29) (mf 30) ((mf 27) 0).toInt 400 from hp_25) (show LW 16 400 gop_11 garg_12 (mf 28) (mf 29) (mf 30) ((mf 27) 1).toInt 400 from hp_26)) (gdV q_1770 q_1772 q_78 q_162 q_1773) hdV_X12_readSum ⟨rfl, rfl⟩ ⟨(Nat.le_of_ble_eq_true rfl), (Nat.le_of_ble_eq_true rfl)⟩ ⟨(Nat.le_of_ble_eq_true rfl), (Nat.le_of_ble_eq_true rfl)⟩ 12 rfl rfl rfl rfl hl42.1 rfl (Nat.le_of_ble_eq_true rfl) dX12_readCompared_79) (fun r_59 u_58 H1 locs hp hw60 => ?_)
      obtain ⟨nspot_61, nfrom_62, ntoken_63, nvalue_64, gop_65, garg_66, ncodes_67, nreadFault_68, nreadPlace_69⟩ := u_58
      generalize H1 = H at hw60 ⊢
      have hw70 : WD D A s.heap (MW cI cJ M mr (upd (upd (upd (upd (upd (upd (upd mi 22 nspot_61) 23 nfrom_62) 24 ntoken_63) 25 nvalue_64) 34 ncodes_67) 38 nreadFault_68) 39 nreadPlace_69) (va_up (va_up mf 31 gop_65) 32 garg_66) mg) H locs := hw60
      obtain ⟨hp_71, hp_72, hp_73, hp_74, hp_75, hp_76, hp_77, hp_78, hp_79, hp_80, hp_81, hp_82⟩ := hp
      have hp_71 : 0 ≤ nfrom_62.toInt := hp_71
      have hp_72 : nfrom_62.toInt ≤ nspot_61.toInt := hp_72
      have hp_73 : nspot_61.toInt ≤ (mi 21).toInt := hp_73
      have hp_74 : 0 ≤ ntoken_63.toInt := hp_74
      have hp_75 : ntoken_63.toInt ≤ 4 := hp_75
      have hp_76 : ntoken_63.toInt ≤ 4 * nspot_61.toInt - 4 * nfrom_62.toInt := hp_76
      have hp_77 : 0 ≤ ncodes_67.toInt := hp_77
      have hp_78 : ncodes_67.toInt ≤ nfrom_62.toInt := hp_78
      have hp_79 : LW 0 0 gop_65 garg_66 (mf 28) (mf 29) (mf 30) ((mf 27) 0).toInt 400 := hp_79
      have hp_80 : LW 16 400 gop_65 garg_66 (mf 28) (mf 29) (mf 30) ((mf 27) 1).toInt 400 := hp_80
      have hp_81 : r_59 = 0 → TX gop_11 garg_12 (800 + (ncodes_13.toInt).toNat) gop_65 garg_66 (800 + (ncodes_67.toInt).toNat) := hp_81
      rcases hp_82 with rfl | ⟨rfl, ha_83, ha_84⟩
      · skip
        refine lv_iconst (pc := 82) (v := (-1)) E.1 E.2.1 dX12_readCompared_82 (by decide +kernel) ?_
        refine lv_icmp_ne (pc := 83) (tgt := 88) E.1 E.2.1 dX12_readCompared_83 (by decide) (fun c_85 => absurd (meqE (a := (-1)) (b := (-1)) (by decide +kernel) (by decide +kernel) (by omega)) c_85) (fun _ => ?_)
        refine lv_iconst (pc := 86) (v := (-1)) E.1 E.2.1 dX12_readCompared_86 (by decide +kernel) ?_
        exact em_i (w1 := (fun (u : Int32 × Int32 × Int32 × Int32 × (Nat → Int32) × (Nat → Int32) × Int32 × Int32 × Int32) => (MW cI cJ M mr (upd (upd (upd (upd (upd (upd (upd mi 22 u.1) 23 u.2.1) 24 u.2.2.1) 25 u.2.2.2.1) 34 u.2.2.2.2.2.2.1) 38 u.2.2.2.2.2.2.2.1) 39 u.2.2.2.2.2.2.2.2) (va_up (va_up mf 31 u.2.2.2.2.1) 32 u.2.2.2.2.2.1) mg))) E hr hlk (nspot_61, nfrom_62, ntoken_63, nvalue_64, gop_65, garg_66, ncodes_67, nreadFault_68, nreadPlace_69) hw70 ⟨hp_71, hp_72, hp_73, hp_74, hp_75, hp_76, hp_77, hp_78, hp_79, hp_80, (fun h => absurd h (by decide +kernel)), (Or.inl rfl)⟩ (Nat.le_of_ble_eq_true rfl) (Nat.le_of_ble_eq_true rfl) dX12_readCompared_87
      · skip
        have hp_81 := hp_81 rfl
        have ha_83 : nfrom_47.toInt - ncodes_13.toInt ≤ nfrom_62.toInt - ncodes_67.toInt := ha_83
        have ha_84 : nfrom_47.toInt + 1 ≤ nfrom_62.toInt := ha_84
        refine lv_iconst (pc := 82) (v := (-1)) E.1 E.2.1 dX12_readCompared_82 (by decide +kernel) ?_
        refine lv_icmp_ne (pc := 83) (tgt := 88) E.1 E.2.1 dX12_readCompared_83 (by decide) (fun _ => ?_) (fun c_86 => absurd c_86 (mneE (a := 0) (b := (-1)) (by decide +kernel) (by decide +kernel) (by omega)))
        refine lv_aload_n (pc := 88) E.1 E.2.1 dX12_readCompared_88 rfl (lv_at hl42 1 rfl) ?_
        refine lv_iload_n (pc := 89) E.1 E.2.1 dX12_readCompared_89 rfl (lv_at hl42 0 rfl) ?_
        refine lv_iconst (pc := 90) (v := 0) E.1 E.2.1 dX12_readCompared_90 (by decide +kernel) ?_
        refine cm_v (pc := 91) hw70 (rn_M (As := [.int 6, .int 0]) (rest := []) E hw70 (s_emits2 l D cI cJ _ M mr (upd (upd (upd (upd (upd (upd (upd mi 22 nspot_61) 23 nfrom_62) 24 ntoken_63) 25 nvalue_64) 34 ncodes_67) 38 nreadFault_68) 39 nreadPlace_69) (va_up (va_up mf 31 gop_65) 32 garg_66) mg 6 0 (by show 0 ≤ ncodes_67.toInt ∧ ncodes_67.toInt ≤ 399; omega) (show LW 0 0 gop_65 garg_66 (mf 28) (mf 29) (mf 30) ((mf 27) 0).toInt 400 from hp_79) (show LW 16 400 gop_65 garg_66 (mf 28) (mf 29) (mf 30) ((mf 27) 1).toInt 400 from hp_80)) (gdV q_1786 q_1788 q_82 q_162 q_1789) hdV_X12_emits ⟨rfl, rfl⟩ ⟨(Nat.le_of_ble_eq_true rfl), (Nat.le_of_ble_eq_true rfl)⟩ ⟨(Nat.le_of_ble_eq_true rfl), (Nat.le_of_ble_eq_true rfl)⟩ 12 rfl rfl rfl rfl hl42.1 rfl (Nat.le_of_ble_eq_true rfl) dX12_readCompared_91) (fun u_87 H1 locs hp hw89 => ?_)
        obtain ⟨gop_90, garg_91, ncodes_92⟩ := u_87
        generalize H1 = H at hw89 ⊢
        have hw93 : WD D A s.heap (MW cI cJ M mr (upd (upd (upd (upd (upd (upd (upd mi 22 nspot_61) 23 nfrom_62) 24 ntoken_63) 25 nvalue_64) 34 ncodes_92) 38 nreadFault_68) 39 nreadPlace_69) (va_up (va_up mf 31 gop_90) 32 garg_91) mg) H locs := hw89
        obtain ⟨hp_94, hp_95, hp_96, hp_97⟩ := hp
        have hp_94 : ncodes_92.toInt = ncodes_67.toInt + 1 := hp_94
        have hp_95 : LW 0 0 gop_90 garg_91 (mf 28) (mf 29) (mf 30) ((mf 27) 0).toInt 400 := hp_95
        have hp_96 : LW 16 400 gop_90 garg_91 (mf 28) (mf 29) (mf 30) ((mf 27) 1).toInt 400 := hp_96
        have hp_97 : EM gop_65 garg_66 gop_90 garg_91 (800 + (ncodes_67.toInt).toNat) (6 : Int32) (0 : Int32) := hp_97
        refine lv_iconst (pc := 94) (v := 0) E.1 E.2.1 dX12_readCompared_94 (by decide +kernel) ?_
        exact em_i (w1 := (fun (u : Int32 × Int32 × Int32 × Int32 × (Nat → Int32) × (Nat → Int32) × Int32 × Int32 × Int32) => (MW cI cJ M mr (upd (upd (upd (upd (upd (upd (upd mi 22 u.1) 23 u.2.1) 24 u.2.2.1) 25 u.2.2.2.1) 34 u.2.2.2.2.2.2.1) 38 u.2.2.2.2.2.2.2.1) 39 u.2.2.2.2.2.2.2.2) (va_up (va_up mf 31 u.2.2.2.2.1) 32 u.2.2.2.2.2.1) mg))) E hr hlk (nspot_61, nfrom_62, ntoken_63, nvalue_64, gop_90, garg_91, ncodes_92, nreadFault_68, nreadPlace_69) hw93 ⟨hp_71, hp_72, hp_73, hp_74, hp_75, hp_76, (by show 0 ≤ ncodes_92.toInt; have k_0 : (0 : Int32).toInt = 0 := (by decide +kernel); omega), (by show ncodes_92.toInt ≤ nfrom_62.toInt; have k_0 : (0 : Int32).toInt = 0 := (by decide +kernel); omega), hp_95, hp_96, (fun _ => (show TX (mf 31) (mf 32) (800 + ((mi 34).toInt).toNat) gop_90 garg_91 (800 + (ncodes_92.toInt).toNat) from (TX_two hp_27 hp_81 hp_97 ⟨by decide +kernel, by decide +kernel, by decide +kernel, fun h => absurd h (by decide +kernel)⟩ (by omega)))), (Or.inr (⟨rfl, (by show (mi 23).toInt - (mi 34).toInt ≤ nfrom_62.toInt - ncodes_92.toInt; omega), (by show (mi 23).toInt + 1 ≤ nfrom_62.toInt; omega)⟩))⟩ (Nat.le_of_ble_eq_true rfl) (Nat.le_of_ble_eq_true rfl) dX12_readCompared_95
    · skip
      refine lv_if_ne (pc := 16) (tgt := 43) E.1 E.2.1 dX12_readCompared_16 (by decide) (fun c_98 => absurd (meqE (a := 0) (b := 0) (by decide +kernel) (by decide +kernel) (by omega)) c_98) (fun _ => ?_)
      refine lv_aload_n (pc := 19) E.1 E.2.1 dX12_readCompared_19 rfl (lv_at hl3 0 rfl) ?_
      refine lv_bipush (pc := 20) (v := 61) E.1 E.2.1 dX12_readCompared_20 (by decide +kernel) ?_
      refine cm_i (pc := 22) hw36 (rn_M (As := [.int 61]) (rest := []) E hw36 (s_isSign2 l D cI cJ _ M mr (upd (upd (upd (upd (upd (upd (upd mi 22 nspot_7) 23 nfrom_8) 24 ntoken_9) 25 nvalue_10) 34 ncodes_13) 38 nreadFault_14) 39 nreadPlace_15) (va_up (va_up mf 31 gop_11) 32 garg_12) mg 61) (gdV q_1718 q_1720 q_65 q_162 q_1721) hdV_X12_isSign ⟨rfl, rfl⟩ ⟨(Nat.le_of_ble_eq_true rfl), (Nat.le_of_ble_eq_true rfl)⟩ ⟨(Nat.le_of_ble_eq_true rfl), (Nat.le_of_ble_eq_true rfl)⟩ 12 rfl rfl rfl rfl hl3.1 rfl (Nat.le_of_ble_eq_true rfl) dX12_readCompared_22) (fun r_100 u_99 H1 locs hp hw101 => ?_)
      generalize H1 = H at hw101 ⊢
      have hw102 : WD D A s.heap (MW cI cJ M mr (upd (upd (upd (upd (upd (upd (upd mi 22 nspot_7) 23 nfrom_8) 24 ntoken_9) 25 nvalue_10) 34 ncodes_13) 38 nreadFault_14) 39 nreadPlace_15) (va_up (va_up mf 31 gop_11) 32 garg_12) mg) H locs := hw101
      have hp_103 := hp
      rcases hp_103 with ⟨rfl, ha_104, ha_105⟩ | rfl
      · skip
        have ha_104 : ntoken_9.toInt = 4 := ha_104
        have ha_105 : nvalue_10.toInt = (61 : Int32).toInt := ha_105
        rw [show (61 : Int32).toInt = 61 from by decide +kernel] at ha_105
        refine lv_if_ne (pc := 25) (tgt := 43) E.1 E.2.1 dX12_readCompared_25 (by decide) (fun _ => ?_) (fun c_106 => absurd c_106 (mneE (a := 1) (b := 0) (by decide +kernel) (by decide +kernel) (by omega)))
        refine lv_aload_n (pc := 43) E.1 E.2.1 dX12_readCompared_43 rfl (lv_at hl3 0 rfl) ?_
        refine x_get (pc := 44) (T := TX12) (N := 70) (ci := 12) (v := .int nvalue_10) E hw102 inX12 0 25 q_1424 rfl rfl (by decide) rfl rfl dX12_readCompared_44 ?_
        refine lv_bipush (pc := 47) (v := 60) E.1 E.2.1 dX12_readCompared_47 (by decide +kernel) ?_
        refine lv_icmp_ne (pc := 49) (tgt := 57) E.1 E.2.1 dX12_readCompared_49 (by decide) (fun _ => ?_) (fun c_107 => absurd c_107 (mneE (a := nvalue_10.toInt) (b := 60) rfl (by decide +kernel) (by omega)))
        refine lv_aload_n (pc := 57) E.1 E.2.1 dX12_readCompared_57 rfl (lv_at hl3 0 rfl) ?_
        refine x_get (pc := 58) (T := TX12) (N := 70) (ci := 12) (v := .int nvalue_10) E hw102 inX12 0 25 q_1424 rfl rfl (by decide) rfl rfl dX12_readCompared_58 ?_
        refine lv_bipush (pc := 61) (v := 61) E.1 E.2.1 dX12_readCompared_61 (by decide +kernel) ?_
        refine lv_icmp_ne (pc := 63) (tgt := 71) E.1 E.2.1 dX12_readCompared_63 (by decide) (fun c_108 => absurd (meqE (a := nvalue_10.toInt) (b := 61) rfl (by decide +kernel) (by omega)) c_108) (fun _ => ?_)
        refine lv_bipush (pc := 66) (v := 7) E.1 E.2.1 dX12_readCompared_66 (by decide +kernel) ?_
        refine lv_goto (pc := 68) (tgt := 73) E.1 E.2.1 dX12_readCompared_68 (by decide) ?_
        refine lv_istore_n (pc := 73) (lv' := [(1, .int 7), (0, .ref M)]) E.1 E.2.1 dX12_readCompared_73 rfl hl3 (by decide) rfl (fun ls hl109 => ?_)
        refine lv_aload_n (pc := 74) E.1 E.2.1 dX12_readCompared_74 rfl (lv_at hl109 1 rfl) ?_
        refine cm_v (pc := 75) hw102 (rn_M (As := []) (rest := []) E hw102 (s_reads l D cI cJ _ M mr (upd (upd (upd (upd (upd (upd (upd mi 22 nspot_7) 23 nfrom_8) 24 ntoken_9) 25 nvalue_10) 34 ncodes_13) 38 nreadFault_14) 39 nreadPlace_15) (va_up (va_up mf 31 gop_11) 32 garg_12) mg (by show 0 ≤ nspot_7.toInt; omega) hp_19 h3 h7) (gdV q_1666 q_1668 q_52 q_162 q_1669) hdV_X12_reads ⟨rfl, rfl⟩ ⟨(Nat.le_of_ble_eq_true rfl), (Nat.le_of_ble_eq_true rfl)⟩ ⟨(Nat.le_of_ble_eq_true rfl), (Nat.le_of_ble_eq_true rfl)⟩ 12 rfl rfl rfl rfl hl109.1 rfl (Nat.le_of_ble_eq_true rfl) dX12_readCompared_75) (fun u_110 H1 locs hp hw112 => ?_)
        obtain ⟨nspot_113, nfrom_114, ntoken_115, nvalue_116⟩ := u_110
        generalize H1 = H at hw112 ⊢
        have hw117 : WD D A s.heap (MW cI cJ M mr (upd (upd (upd (upd (upd (upd (upd mi 22 nspot_113) 23 nfrom_114) 24 ntoken_115) 25 nvalue_116) 34 ncodes_13) 38 nreadFault_14) 39 nreadPlace_15) (va_up (va_up mf 31 gop_11) 32 garg_12) mg) H locs := hw112
        obtain ⟨hp_118, hp_119, hp_120, hp_121, hp_122, hp_123, hp_124⟩ := hp
        have hp_118 : 0 ≤ nfrom_114.toInt := hp_118
        have hp_119 : nfrom_114.toInt ≤ nspot_113.toInt := hp_119
        have hp_120 : nspot_113.toInt ≤ (mi 21).toInt := hp_120
        have hp_121 : 0 ≤ ntoken_115.toInt := hp_121
        have hp_122 : ntoken_115.toInt ≤ 4 := hp_122
        have hp_123 : ntoken_115.toInt ≤ 4 * nspot_113.toInt - 4 * nfrom_114.toInt := hp_123
        have hp_124 : nspot_7.toInt ≤ nfrom_114.toInt := hp_124
        refine lv_aload_n (pc := 78) E.1 E.2.1 dX12_readCompared_78 rfl (lv_at hl109 1 rfl) ?_
        refine cm_i (pc := 79) hw117 (rn_M (As := []) (rest := []) E hw117 (s_readSum l D cI cJ _ M mr (upd (upd (upd (upd (upd (upd (upd mi 22 nspot_113) 23 nfrom_114) 24 ntoken_115) 25 nvalue_116) 34 ncodes_13) 38 nreadFault_14) 39 nreadPlace_15) (va_up (va_up mf 31 gop_11) 32 garg_12) mg hp_118 hp_119 hp_120 h3 hp_121 hp_122 hp_123 h7 hp_23 (by show ncodes_13.toInt ≤ nfrom_114.toInt; omega) (show LW 0 0 gop_11 garg_12 (mf 28) (mf 29) (mf 30) ((mf 27) 0).toInt 400 from hp_25) (show LW 16 400 gop_11 garg_12 (mf 28) (mf 29) (mf 30) ((mf 27) 1).toInt 400 from hp_26)) (gdV q_1770 q_1772 q_78 q_162 q_1773) hdV_X12_readSum ⟨rfl, rfl⟩ ⟨(Nat.le_of_ble_eq_true rfl), (Nat.le_of_ble_eq_true rfl)⟩ ⟨(Nat.le_of_ble_eq_true rfl), (Nat.le_of_ble_eq_true rfl)⟩ 12 rfl rfl rfl rfl hl109.1 rfl (Nat.le_of_ble_eq_true rfl) dX12_readCompared_79) (fun r_126 u_125 H1 locs hp hw127 => ?_)
        obtain ⟨nspot_128, nfrom_129, ntoken_130, nvalue_131, gop_132, garg_133, ncodes_134, nreadFault_135, nreadPlace_136⟩ := u_125
        generalize H1 = H at hw127 ⊢
        have hw137 : WD D A s.heap (MW cI cJ M mr (upd (upd (upd (upd (upd (upd (upd mi 22 nspot_128) 23 nfrom_129) 24 ntoken_130) 25 nvalue_131) 34 ncodes_134) 38 nreadFault_135) 39 nreadPlace_136) (va_up (va_up mf 31 gop_132) 32 garg_133) mg) H locs := hw127
        obtain ⟨hp_138, hp_139, hp_140, hp_141, hp_142, hp_143, hp_144, hp_145, hp_146, hp_147, hp_148, hp_149⟩ := hp
        have hp_138 : 0 ≤ nfrom_129.toInt := hp_138
        have hp_139 : nfrom_129.toInt ≤ nspot_128.toInt := hp_139
        have hp_140 : nspot_128.toInt ≤ (mi 21).toInt := hp_140
        have hp_141 : 0 ≤ ntoken_130.toInt := hp_141
        have hp_142 : ntoken_130.toInt ≤ 4 := hp_142
        have hp_143 : ntoken_130.toInt ≤ 4 * nspot_128.toInt - 4 * nfrom_129.toInt := hp_143
        have hp_144 : 0 ≤ ncodes_134.toInt := hp_144
        have hp_145 : ncodes_134.toInt ≤ nfrom_129.toInt := hp_145
        have hp_146 : LW 0 0 gop_132 garg_133 (mf 28) (mf 29) (mf 30) ((mf 27) 0).toInt 400 := hp_146
        have hp_147 : LW 16 400 gop_132 garg_133 (mf 28) (mf 29) (mf 30) ((mf 27) 1).toInt 400 := hp_147
        have hp_148 : r_126 = 0 → TX gop_11 garg_12 (800 + (ncodes_13.toInt).toNat) gop_132 garg_133 (800 + (ncodes_134.toInt).toNat) := hp_148
        rcases hp_149 with rfl | ⟨rfl, ha_150, ha_151⟩
        · skip
          refine lv_iconst (pc := 82) (v := (-1)) E.1 E.2.1 dX12_readCompared_82 (by decide +kernel) ?_
          refine lv_icmp_ne (pc := 83) (tgt := 88) E.1 E.2.1 dX12_readCompared_83 (by decide) (fun c_152 => absurd (meqE (a := (-1)) (b := (-1)) (by decide +kernel) (by decide +kernel) (by omega)) c_152) (fun _ => ?_)
          refine lv_iconst (pc := 86) (v := (-1)) E.1 E.2.1 dX12_readCompared_86 (by decide +kernel) ?_
          exact em_i (w1 := (fun (u : Int32 × Int32 × Int32 × Int32 × (Nat → Int32) × (Nat → Int32) × Int32 × Int32 × Int32) => (MW cI cJ M mr (upd (upd (upd (upd (upd (upd (upd mi 22 u.1) 23 u.2.1) 24 u.2.2.1) 25 u.2.2.2.1) 34 u.2.2.2.2.2.2.1) 38 u.2.2.2.2.2.2.2.1) 39 u.2.2.2.2.2.2.2.2) (va_up (va_up mf 31 u.2.2.2.2.1) 32 u.2.2.2.2.2.1) mg))) E hr hlk (nspot_128, nfrom_129, ntoken_130, nvalue_131, gop_132, garg_133, ncodes_134, nreadFault_135, nreadPlace_136) hw137 ⟨hp_138, hp_139, hp_140, hp_141, hp_142, hp_143, hp_144, hp_145, hp_146, hp_147, (fun h => absurd h (by decide +kernel)), (Or.inl rfl)⟩ (Nat.le_of_ble_eq_true rfl) (Nat.le_of_ble_eq_true rfl) dX12_readCompared_87
        · skip
          have hp_148 := hp_148 rfl
          have ha_150 : nfrom_114.toInt - ncodes_13.toInt ≤ nfrom_129.toInt - ncodes_134.toInt := ha_150
          have ha_151 : nfrom_114.toInt + 1 ≤ nfrom_129.toInt := ha_151
          refine lv_iconst (pc := 82) (v := (-1)) E.1 E.2.1 dX12_readCompared_82 (by decide +kernel) ?_
          refine lv_icmp_ne (pc := 83) (tgt := 88) E.1 E.2.1 dX12_readCompared_83 (by decide) (fun _ => ?_) (fun c_153 => absurd c_153 (mneE (a := 0) (b := (-1)) (by decide +kernel) (by decide +kernel) (by omega)))
          refine lv_aload_n (pc := 88) E.1 E.2.1 dX12_readCompared_88 rfl (lv_at hl109 1 rfl) ?_
          refine lv_iload_n (pc := 89) E.1 E.2.1 dX12_readCompared_89 rfl (lv_at hl109 0 rfl) ?_
          refine lv_iconst (pc := 90) (v := 0) E.1 E.2.1 dX12_readCompared_90 (by decide +kernel) ?_
          refine cm_v (pc := 91) hw137 (rn_M (As := [.int 7, .int 0]) (rest := []) E hw137 (s_emits2 l D cI cJ _ M mr (upd (upd (upd (upd (upd (upd (upd mi 22 nspot_128) 23 nfrom_129) 24 ntoken_130) 25 nvalue_131) 34 ncodes_134) 38 nreadFault_135) 39 nreadPlace_136) (va_up (va_up mf 31 gop_132) 32 garg_133) mg 7 0 (by show 0 ≤ ncodes_134.toInt ∧ ncodes_134.toInt ≤ 399; omega) (show LW 0 0 gop_132 garg_133 (mf 28) (mf 29) (mf 30) ((mf 27) 0).toInt 400 from hp_146) (show LW 16 400 gop_132 garg_133 (mf 28) (mf 29) (mf 30) ((mf 27) 1).toInt 400 from hp_147)) (gdV q_1786 q_1788 q_82 q_162 q_1789) hdV_X12_emits ⟨rfl, rfl⟩ ⟨(Nat.le_of_ble_eq_true rfl), (Nat.le_of_ble_eq_true rfl)⟩ ⟨(Nat.le_of_ble_eq_true rfl), (Nat.le_of_ble_eq_true rfl)⟩ 12 rfl rfl rfl rfl hl109.1 rfl (Nat.le_of_ble_eq_true rfl) dX12_readCompared_91) (fun u_154 H1 locs hp hw156 => ?_)
          obtain ⟨gop_157, garg_158, ncodes_159⟩ := u_154
          generalize H1 = H at hw156 ⊢
          have hw160 : WD D A s.heap (MW cI cJ M mr (upd (upd (upd (upd (upd (upd (upd mi 22 nspot_128) 23 nfrom_129) 24 ntoken_130) 25 nvalue_131) 34 ncodes_159) 38 nreadFault_135) 39 nreadPlace_136) (va_up (va_up mf 31 gop_157) 32 garg_158) mg) H locs := hw156
          obtain ⟨hp_161, hp_162, hp_163, hp_164⟩ := hp
          have hp_161 : ncodes_159.toInt = ncodes_134.toInt + 1 := hp_161
          have hp_162 : LW 0 0 gop_157 garg_158 (mf 28) (mf 29) (mf 30) ((mf 27) 0).toInt 400 := hp_162
          have hp_163 : LW 16 400 gop_157 garg_158 (mf 28) (mf 29) (mf 30) ((mf 27) 1).toInt 400 := hp_163
          have hp_164 : EM gop_132 garg_133 gop_157 garg_158 (800 + (ncodes_134.toInt).toNat) (7 : Int32) (0 : Int32) := hp_164
          refine lv_iconst (pc := 94) (v := 0) E.1 E.2.1 dX12_readCompared_94 (by decide +kernel) ?_
          exact em_i (w1 := (fun (u : Int32 × Int32 × Int32 × Int32 × (Nat → Int32) × (Nat → Int32) × Int32 × Int32 × Int32) => (MW cI cJ M mr (upd (upd (upd (upd (upd (upd (upd mi 22 u.1) 23 u.2.1) 24 u.2.2.1) 25 u.2.2.2.1) 34 u.2.2.2.2.2.2.1) 38 u.2.2.2.2.2.2.2.1) 39 u.2.2.2.2.2.2.2.2) (va_up (va_up mf 31 u.2.2.2.2.1) 32 u.2.2.2.2.2.1) mg))) E hr hlk (nspot_128, nfrom_129, ntoken_130, nvalue_131, gop_157, garg_158, ncodes_159, nreadFault_135, nreadPlace_136) hw160 ⟨hp_138, hp_139, hp_140, hp_141, hp_142, hp_143, (by show 0 ≤ ncodes_159.toInt; have k_0 : (0 : Int32).toInt = 0 := (by decide +kernel); omega), (by show ncodes_159.toInt ≤ nfrom_129.toInt; have k_0 : (0 : Int32).toInt = 0 := (by decide +kernel); omega), hp_162, hp_163, (fun _ => (show TX (mf 31) (mf 32) (800 + ((mi 34).toInt).toNat) gop_157 garg_158 (800 + (ncodes_159.toInt).toNat) from (TX_two hp_27 hp_148 hp_164 ⟨by decide +kernel, by decide +kernel, by decide +kernel, fun h => absurd h (by decide +kernel)⟩ (by omega)))), (Or.inr (⟨rfl, (by show (mi 23).toInt - (mi 34).toInt ≤ nfrom_129.toInt - ncodes_159.toInt; omega), (by show (mi 23).toInt + 1 ≤ nfrom_129.toInt; omega)⟩))⟩ (Nat.le_of_ble_eq_true rfl) (Nat.le_of_ble_eq_true rfl) dX12_readCompared_95
      · skip
        refine lv_if_ne (pc := 25) (tgt := 43) E.1 E.2.1 dX12_readCompared_25 (by decide) (fun c_165 => absurd (meqE (a := 0) (b := 0) (by decide +kernel) (by decide +kernel) (by omega)) c_165) (fun _ => ?_)
        refine lv_aload_n (pc := 28) E.1 E.2.1 dX12_readCompared_28 rfl (lv_at hl3 0 rfl) ?_
        refine lv_bipush (pc := 29) (v := 62) E.1 E.2.1 dX12_readCompared_29 (by decide +kernel) ?_
        refine cm_i (pc := 31) hw102 (rn_M (As := [.int 62]) (rest := []) E hw102 (s_isSign2 l D cI cJ _ M mr (upd (upd (upd (upd (upd (upd (upd mi 22 nspot_7) 23 nfrom_8) 24 ntoken_9) 25 nvalue_10) 34 ncodes_13) 38 nreadFault_14) 39 nreadPlace_15) (va_up (va_up mf 31 gop_11) 32 garg_12) mg 62) (gdV q_1718 q_1720 q_65 q_162 q_1721) hdV_X12_isSign ⟨rfl, rfl⟩ ⟨(Nat.le_of_ble_eq_true rfl), (Nat.le_of_ble_eq_true rfl)⟩ ⟨(Nat.le_of_ble_eq_true rfl), (Nat.le_of_ble_eq_true rfl)⟩ 12 rfl rfl rfl rfl hl3.1 rfl (Nat.le_of_ble_eq_true rfl) dX12_readCompared_31) (fun r_167 u_166 H1 locs hp hw168 => ?_)
        generalize H1 = H at hw168 ⊢
        have hw169 : WD D A s.heap (MW cI cJ M mr (upd (upd (upd (upd (upd (upd (upd mi 22 nspot_7) 23 nfrom_8) 24 ntoken_9) 25 nvalue_10) 34 ncodes_13) 38 nreadFault_14) 39 nreadPlace_15) (va_up (va_up mf 31 gop_11) 32 garg_12) mg) H locs := hw168
        have hp_170 := hp
        rcases hp_170 with ⟨rfl, ha_171, ha_172⟩ | rfl
        · skip
          have ha_171 : ntoken_9.toInt = 4 := ha_171
          have ha_172 : nvalue_10.toInt = (62 : Int32).toInt := ha_172
          rw [show (62 : Int32).toInt = 62 from by decide +kernel] at ha_172
          refine lv_if_ne (pc := 34) (tgt := 43) E.1 E.2.1 dX12_readCompared_34 (by decide) (fun _ => ?_) (fun c_173 => absurd c_173 (mneE (a := 1) (b := 0) (by decide +kernel) (by decide +kernel) (by omega)))
          refine lv_aload_n (pc := 43) E.1 E.2.1 dX12_readCompared_43 rfl (lv_at hl3 0 rfl) ?_
          refine x_get (pc := 44) (T := TX12) (N := 70) (ci := 12) (v := .int nvalue_10) E hw169 inX12 0 25 q_1424 rfl rfl (by decide) rfl rfl dX12_readCompared_44 ?_
          refine lv_bipush (pc := 47) (v := 60) E.1 E.2.1 dX12_readCompared_47 (by decide +kernel) ?_
          refine lv_icmp_ne (pc := 49) (tgt := 57) E.1 E.2.1 dX12_readCompared_49 (by decide) (fun _ => ?_) (fun c_174 => absurd c_174 (mneE (a := nvalue_10.toInt) (b := 60) rfl (by decide +kernel) (by omega)))
          refine lv_aload_n (pc := 57) E.1 E.2.1 dX12_readCompared_57 rfl (lv_at hl3 0 rfl) ?_
          refine x_get (pc := 58) (T := TX12) (N := 70) (ci := 12) (v := .int nvalue_10) E hw169 inX12 0 25 q_1424 rfl rfl (by decide) rfl rfl dX12_readCompared_58 ?_
          refine lv_bipush (pc := 61) (v := 61) E.1 E.2.1 dX12_readCompared_61 (by decide +kernel) ?_
          refine lv_icmp_ne (pc := 63) (tgt := 71) E.1 E.2.1 dX12_readCompared_63 (by decide) (fun _ => ?_) (fun c_175 => absurd c_175 (mneE (a := nvalue_10.toInt) (b := 61) rfl (by decide +kernel) (by omega)))
          refine lv_bipush (pc := 71) (v := 8) E.1 E.2.1 dX12_readCompared_71 (by decide +kernel) ?_
          refine lv_istore_n (pc := 73) (lv' := [(1, .int 8), (0, .ref M)]) E.1 E.2.1 dX12_readCompared_73 rfl hl3 (by decide) rfl (fun ls hl176 => ?_)
          refine lv_aload_n (pc := 74) E.1 E.2.1 dX12_readCompared_74 rfl (lv_at hl176 1 rfl) ?_
          refine cm_v (pc := 75) hw169 (rn_M (As := []) (rest := []) E hw169 (s_reads l D cI cJ _ M mr (upd (upd (upd (upd (upd (upd (upd mi 22 nspot_7) 23 nfrom_8) 24 ntoken_9) 25 nvalue_10) 34 ncodes_13) 38 nreadFault_14) 39 nreadPlace_15) (va_up (va_up mf 31 gop_11) 32 garg_12) mg (by show 0 ≤ nspot_7.toInt; omega) hp_19 h3 h7) (gdV q_1666 q_1668 q_52 q_162 q_1669) hdV_X12_reads ⟨rfl, rfl⟩ ⟨(Nat.le_of_ble_eq_true rfl), (Nat.le_of_ble_eq_true rfl)⟩ ⟨(Nat.le_of_ble_eq_true rfl), (Nat.le_of_ble_eq_true rfl)⟩ 12 rfl rfl rfl rfl hl176.1 rfl (Nat.le_of_ble_eq_true rfl) dX12_readCompared_75) (fun u_177 H1 locs hp hw179 => ?_)
          obtain ⟨nspot_180, nfrom_181, ntoken_182, nvalue_183⟩ := u_177
          generalize H1 = H at hw179 ⊢
          have hw184 : WD D A s.heap (MW cI cJ M mr (upd (upd (upd (upd (upd (upd (upd mi 22 nspot_180) 23 nfrom_181) 24 ntoken_182) 25 nvalue_183) 34 ncodes_13) 38 nreadFault_14) 39 nreadPlace_15) (va_up (va_up mf 31 gop_11) 32 garg_12) mg) H locs := hw179
          obtain ⟨hp_185, hp_186, hp_187, hp_188, hp_189, hp_190, hp_191⟩ := hp
          have hp_185 : 0 ≤ nfrom_181.toInt := hp_185
          have hp_186 : nfrom_181.toInt ≤ nspot_180.toInt := hp_186
          have hp_187 : nspot_180.toInt ≤ (mi 21).toInt := hp_187
          have hp_188 : 0 ≤ ntoken_182.toInt := hp_188
          have hp_189 : ntoken_182.toInt ≤ 4 := hp_189
          have hp_190 : ntoken_182.toInt ≤ 4 * nspot_180.toInt - 4 * nfrom_181.toInt := hp_190
          have hp_191 : nspot_7.toInt ≤ nfrom_181.toInt := hp_191
          refine lv_aload_n (pc := 78) E.1 E.2.1 dX12_readCompared_78 rfl (lv_at hl176 1 rfl) ?_
          refine cm_i (pc := 79) hw184 (rn_M (As := []) (rest := []) E hw184 (s_readSum l D cI cJ _ M mr (upd (upd (upd (upd (upd (upd (upd mi 22 nspot_180) 23 nfrom_181) 24 ntoken_182) 25 nvalue_183) 34 ncodes_13) 38 nreadFault_14) 39 nreadPlace_15) (va_up (va_up mf 31 gop_11) 32 garg_12) mg hp_185 hp_186 hp_187 h3 hp_188 hp_189 hp_190 h7 hp_23 (by show ncodes_13.toInt ≤ nfrom_181.toInt; omega) (show LW 0 0 gop_11 garg_12 (mf 28) (mf 29) (mf 30) ((mf 27) 0).toInt 400 from hp_25) (show LW 16 400 gop_11 garg_12 (mf 28) (mf 29) (mf 30) ((mf 27) 1).toInt 400 from hp_26)) (gdV q_1770 q_1772 q_78 q_162 q_1773) hdV_X12_readSum ⟨rfl, rfl⟩ ⟨(Nat.le_of_ble_eq_true rfl), (Nat.le_of_ble_eq_true rfl)⟩ ⟨(Nat.le_of_ble_eq_true rfl), (Nat.le_of_ble_eq_true rfl)⟩ 12 rfl rfl rfl rfl hl176.1 rfl (Nat.le_of_ble_eq_true rfl) dX12_readCompared_79) (fun r_193 u_192 H1 locs hp hw194 => ?_)
          obtain ⟨nspot_195, nfrom_196, ntoken_197, nvalue_198, gop_199, garg_200, ncodes_201, nreadFault_202, nreadPlace_203⟩ := u_192
          generalize H1 = H at hw194 ⊢
          have hw204 : WD D A s.heap (MW cI cJ M mr (upd (upd (upd (upd (upd (upd (upd mi 22 nspot_195) 23 nfrom_196) 24 ntoken_197) 25 nvalue_198) 34 ncodes_201) 38 nreadFault_202) 39 nreadPlace_203) (va_up (va_up mf 31 gop_199) 32 garg_200) mg) H locs := hw194
          obtain ⟨hp_205, hp_206, hp_207, hp_208, hp_209, hp_210, hp_211, hp_212, hp_213, hp_214, hp_215, hp_216⟩ := hp
          have hp_205 : 0 ≤ nfrom_196.toInt := hp_205
          have hp_206 : nfrom_196.toInt ≤ nspot_195.toInt := hp_206
          have hp_207 : nspot_195.toInt ≤ (mi 21).toInt := hp_207
          have hp_208 : 0 ≤ ntoken_197.toInt := hp_208
          have hp_209 : ntoken_197.toInt ≤ 4 := hp_209
          have hp_210 : ntoken_197.toInt ≤ 4 * nspot_195.toInt - 4 * nfrom_196.toInt := hp_210
          have hp_211 : 0 ≤ ncodes_201.toInt := hp_211
          have hp_212 : ncodes_201.toInt ≤ nfrom_196.toInt := hp_212
          have hp_213 : LW 0 0 gop_199 garg_200 (mf 28) (mf 29) (mf 30) ((mf 27) 0).toInt 400 := hp_213
          have hp_214 : LW 16 400 gop_199 garg_200 (mf 28) (mf 29) (mf 30) ((mf 27) 1).toInt 400 := hp_214
          have hp_215 : r_193 = 0 → TX gop_11 garg_12 (800 + (ncodes_13.toInt).toNat) gop_199 garg_200 (800 + (ncodes_201.toInt).toNat) := hp_215
          rcases hp_216 with rfl | ⟨rfl, ha_217, ha_218⟩
          · skip
            refine lv_iconst (pc := 82) (v := (-1)) E.1 E.2.1 dX12_readCompared_82 (by decide +kernel) ?_
            refine lv_icmp_ne (pc := 83) (tgt := 88) E.1 E.2.1 dX12_readCompared_83 (by decide) (fun c_219 => absurd (meqE (a := (-1)) (b := (-1)) (by decide +kernel) (by decide +kernel) (by omega)) c_219) (fun _ => ?_)
            refine lv_iconst (pc := 86) (v := (-1)) E.1 E.2.1 dX12_readCompared_86 (by decide +kernel) ?_
            exact em_i (w1 := (fun (u : Int32 × Int32 × Int32 × Int32 × (Nat → Int32) × (Nat → Int32) × Int32 × Int32 × Int32) => (MW cI cJ M mr (upd (upd (upd (upd (upd (upd (upd mi 22 u.1) 23 u.2.1) 24 u.2.2.1) 25 u.2.2.2.1) 34 u.2.2.2.2.2.2.1) 38 u.2.2.2.2.2.2.2.1) 39 u.2.2.2.2.2.2.2.2) (va_up (va_up mf 31 u.2.2.2.2.1) 32 u.2.2.2.2.2.1) mg))) E hr hlk (nspot_195, nfrom_196, ntoken_197, nvalue_198, gop_199, garg_200, ncodes_201, nreadFault_202, nreadPlace_203) hw204 ⟨hp_205, hp_206, hp_207, hp_208, hp_209, hp_210, hp_211, hp_212, hp_213, hp_214, (fun h => absurd h (by decide +kernel)), (Or.inl rfl)⟩ (Nat.le_of_ble_eq_true rfl) (Nat.le_of_ble_eq_true rfl) dX12_readCompared_87
          · skip
            have hp_215 := hp_215 rfl
            have ha_217 : nfrom_181.toInt - ncodes_13.toInt ≤ nfrom_196.toInt - ncodes_201.toInt := ha_217
            have ha_218 : nfrom_181.toInt + 1 ≤ nfrom_196.toInt := ha_218
            refine lv_iconst (pc := 82) (v := (-1)) E.1 E.2.1 dX12_readCompared_82 (by decide +kernel) ?_
            refine lv_icmp_ne (pc := 83) (tgt := 88) E.1 E.2.1 dX12_readCompared_83 (by decide) (fun _ => ?_) (fun c_220 => absurd c_220 (mneE (a := 0) (b := (-1)) (by decide +kernel) (by decide +kernel) (by omega)))
            refine lv_aload_n (pc := 88) E.1 E.2.1 dX12_readCompared_88 rfl (lv_at hl176 1 rfl) ?_
            refine lv_iload_n (pc := 89) E.1 E.2.1 dX12_readCompared_89 rfl (lv_at hl176 0 rfl) ?_
            refine lv_iconst (pc := 90) (v := 0) E.1 E.2.1 dX12_readCompared_90 (by decide +kernel) ?_
            refine cm_v (pc := 91) hw204 (rn_M (As := [.int 8, .int 0]) (rest := []) E hw204 (s_emits2 l D cI cJ _ M mr (upd (upd (upd (upd (upd (upd (upd mi 22 nspot_195) 23 nfrom_196) 24 ntoken_197) 25 nvalue_198) 34 ncodes_201) 38 nreadFault_202) 39 nreadPlace_203) (va_up (va_up mf 31 gop_199) 32 garg_200) mg 8 0 (by show 0 ≤ ncodes_201.toInt ∧ ncodes_201.toInt ≤ 399; omega) (show LW 0 0 gop_199 garg_200 (mf 28) (mf 29) (mf 30) ((mf 27) 0).toInt 400 from hp_213) (show LW 16 400 gop_199 garg_200 (mf 28) (mf 29) (mf 30) ((mf 27) 1).toInt 400 from hp_214)) (gdV q_1786 q_1788 q_82 q_162 q_1789) hdV_X12_emits ⟨rfl, rfl⟩ ⟨(Nat.le_of_ble_eq_true rfl), (Nat.le_of_ble_eq_true rfl)⟩ ⟨(Nat.le_of_ble_eq_true rfl), (Nat.le_of_ble_eq_true rfl)⟩ 12 rfl rfl rfl rfl hl176.1 rfl (Nat.le_of_ble_eq_true rfl) dX12_readCompared_91) (fun u_221 H1 locs hp hw223 => ?_)
            obtain ⟨gop_224, garg_225, ncodes_226⟩ := u_221
            generalize H1 = H at hw223 ⊢
            have hw227 : WD D A s.heap (MW cI cJ M mr (upd (upd (upd (upd (upd (upd (upd mi 22 nspot_195) 23 nfrom_196) 24 ntoken_197) 25 nvalue_198) 34 ncodes_226) 38 nreadFault_202) 39 nreadPlace_203) (va_up (va_up mf 31 gop_224) 32 garg_225) mg) H locs := hw223
            obtain ⟨hp_228, hp_229, hp_230, hp_231⟩ := hp
            have hp_228 : ncodes_226.toInt = ncodes_201.toInt + 1 := hp_228
            have hp_229 : LW 0 0 gop_224 garg_225 (mf 28) (mf 29) (mf 30) ((mf 27) 0).toInt 400 := hp_229
            have hp_230 : LW 16 400 gop_224 garg_225 (mf 28) (mf 29) (mf 30) ((mf 27) 1).toInt 400 := hp_230
            have hp_231 : EM gop_199 garg_200 gop_224 garg_225 (800 + (ncodes_201.toInt).toNat) (8 : Int32) (0 : Int32) := hp_231
            refine lv_iconst (pc := 94) (v := 0) E.1 E.2.1 dX12_readCompared_94 (by decide +kernel) ?_
            exact em_i (w1 := (fun (u : Int32 × Int32 × Int32 × Int32 × (Nat → Int32) × (Nat → Int32) × Int32 × Int32 × Int32) => (MW cI cJ M mr (upd (upd (upd (upd (upd (upd (upd mi 22 u.1) 23 u.2.1) 24 u.2.2.1) 25 u.2.2.2.1) 34 u.2.2.2.2.2.2.1) 38 u.2.2.2.2.2.2.2.1) 39 u.2.2.2.2.2.2.2.2) (va_up (va_up mf 31 u.2.2.2.2.1) 32 u.2.2.2.2.2.1) mg))) E hr hlk (nspot_195, nfrom_196, ntoken_197, nvalue_198, gop_224, garg_225, ncodes_226, nreadFault_202, nreadPlace_203) hw227 ⟨hp_205, hp_206, hp_207, hp_208, hp_209, hp_210, (by show 0 ≤ ncodes_226.toInt; have k_0 : (0 : Int32).toInt = 0 := (by decide +kernel); omega), (by show ncodes_226.toInt ≤ nfrom_196.toInt; have k_0 : (0 : Int32).toInt = 0 := (by decide +kernel); omega), hp_229, hp_230, (fun _ => (show TX (mf 31) (mf 32) (800 + ((mi 34).toInt).toNat) gop_224 garg_225 (800 + (ncodes_226.toInt).toNat) from (TX_two hp_27 hp_215 hp_231 ⟨by decide +kernel, by decide +kernel, by decide +kernel, fun h => absurd h (by decide +kernel)⟩ (by omega)))), (Or.inr (⟨rfl, (by show (mi 23).toInt - (mi 34).toInt ≤ nfrom_196.toInt - ncodes_226.toInt; omega), (by show (mi 23).toInt + 1 ≤ nfrom_196.toInt; omega)⟩))⟩ (Nat.le_of_ble_eq_true rfl) (Nat.le_of_ble_eq_true rfl) dX12_readCompared_95
        · skip
          refine lv_if_ne (pc := 34) (tgt := 43) E.1 E.2.1 dX12_readCompared_34 (by decide) (fun c_232 => absurd (meqE (a := 0) (b := 0) (by decide +kernel) (by decide +kernel) (by omega)) c_232) (fun _ => ?_)
          refine lv_aload_n (pc := 37) E.1 E.2.1 dX12_readCompared_37 rfl (lv_at hl3 0 rfl) ?_
          refine lv_iconst (pc := 38) (v := 1) E.1 E.2.1 dX12_readCompared_38 (by decide +kernel) ?_
          refine cm_i (pc := 39) hw169 (rn_M (As := [.int 1]) (rest := []) E hw169 (s_errs2 l D cI cJ _ M mr (upd (upd (upd (upd (upd (upd (upd mi 22 nspot_7) 23 nfrom_8) 24 ntoken_9) 25 nvalue_10) 34 ncodes_13) 38 nreadFault_14) 39 nreadPlace_15) (va_up (va_up mf 31 gop_11) 32 garg_12) mg 1) (gdV q_1698 q_1700 q_60 q_162 q_1701) hdV_X12_errs ⟨rfl, rfl⟩ ⟨(Nat.le_of_ble_eq_true rfl), (Nat.le_of_ble_eq_true rfl)⟩ ⟨(Nat.le_of_ble_eq_true rfl), (Nat.le_of_ble_eq_true rfl)⟩ 12 rfl rfl rfl rfl hl3.1 rfl (Nat.le_of_ble_eq_true rfl) dX12_readCompared_39) (fun r_234 u_233 H1 locs hp hw235 => ?_)
          obtain ⟨nreadFault_236, nreadPlace_237⟩ := u_233
          generalize H1 = H at hw235 ⊢
          have hw238 : WD D A s.heap (MW cI cJ M mr (upd (upd (upd (upd (upd (upd (upd mi 22 nspot_7) 23 nfrom_8) 24 ntoken_9) 25 nvalue_10) 34 ncodes_13) 38 nreadFault_236) 39 nreadPlace_237) (va_up (va_up mf 31 gop_11) 32 garg_12) mg) H locs := hw235
          have hp_239 := hp
          rcases hp_239 with rfl
          · skip
            exact em_i (w1 := (fun (u : Int32 × Int32 × Int32 × Int32 × (Nat → Int32) × (Nat → Int32) × Int32 × Int32 × Int32) => (MW cI cJ M mr (upd (upd (upd (upd (upd (upd (upd mi 22 u.1) 23 u.2.1) 24 u.2.2.1) 25 u.2.2.2.1) 34 u.2.2.2.2.2.2.1) 38 u.2.2.2.2.2.2.2.1) 39 u.2.2.2.2.2.2.2.2) (va_up (va_up mf 31 u.2.2.2.2.1) 32 u.2.2.2.2.2.1) mg))) E hr hlk (nspot_7, nfrom_8, ntoken_9, nvalue_10, gop_11, garg_12, ncodes_13, nreadFault_236, nreadPlace_237) hw238 ⟨hp_17, hp_18, hp_19, hp_20, hp_21, hp_22, hp_23, hp_24, hp_25, hp_26, (fun h => absurd h (by decide +kernel)), (Or.inl rfl)⟩ (Nat.le_of_ble_eq_true rfl) (Nat.le_of_ble_eq_true rfl) dX12_readCompared_42

set_option maxHeartbeats 4000000 in
set_option maxRecDepth 100000 in
theorem s_waits2 (l : Launch) (D : va_G) (cI cJ : ClassId) (sz M : Nat) (mr : Nat → Nat) (mi : Nat → Int32) (mf : Nat → Nat → Int32) (mg : Nat → Nat → Int64) (z_what : Int32) (h0 : 0 ≤ (mi 37).toInt ∧ (mi 37).toInt ≤ 39) : Met l yX12_waits (Cond.code yX12_waits cX12_waits 2 none :: GW) ({ frames := 1, cells := 0, slots := 0, locals := 40 } : Room) (va_Pc [.ref M, .int z_what] (PW D cI cJ sz (MW cI cJ M mr mi mf mg) xT)) (va_Qv (fun (u : (Nat → Int32) × Int32) => (u.2.toInt = (mi 37).toInt + 1) ∧ (u.1 (((mi 37).toInt).toNat) = z_what ∧ ∀ j : Nat, j < ((mi 37).toInt).toNat → u.1 j = (mf 36) j)) (fun u => QW D cI cJ (va_A (MW cI cJ M mr mi mf mg) sz) ((fun (u : (Nat → Int32) × Int32) => (MW cI cJ M mr (upd mi 37 u.2) (va_up mf 36 u.1) mg)) u)) (va_A (MW cI cJ M mr mi mf mg) sz)) 0 0 (va_A (MW cI cJ M mr mi mf mg) sz) := by
  refine mk_met (y := yX12_waits) (bytes := cX12_waits) (maxL := 2) (avs := [.ref M, .int z_what]) (WS := (MW cI cJ M mr mi mf mg)) (Qf := fun A => va_Qv (fun (u : (Nat → Int32) × Int32) => (u.2.toInt = (mi 37).toInt + 1) ∧ (u.1 (((mi 37).toInt).toNat) = z_what ∧ ∀ j : Nat, j < ((mi 37).toInt).toNat → u.1 j = (mf 36) j)) (fun u => QW D cI cJ A ((fun (u : (Nat → Int32) × Int32) => (MW cI cJ M mr (upd mi 37 u.2) (va_up mf 36 u.1) mg)) u)) A) (by decide) (Nat.le_of_ble_eq_true rfl) ?_
  intro p e s m below meth c A ls E hr hlk hnm hX hw1 hl2
  have hl3 : lv_has ls 2 [(0, .ref M), (1, .int z_what)] := hl2
  refine lv_aload_n (pc := 0) E.1 E.2.1 dX12_waits_0 rfl (lv_at hl3 0 rfl) ?_
  refine x_get (pc := 1) (T := TX12) (N := 70) (ci := 12) (v := .ref (mr 36)) E hw1 inX12 0 36 q_1435 rfl rfl (by decide) rfl rfl dX12_waits_1 ?_
  refine lv_aload_n (pc := 4) E.1 E.2.1 dX12_waits_4 rfl (lv_at hl3 0 rfl) ?_
  refine x_get (pc := 5) (T := TX12) (N := 70) (ci := 12) (v := .int (mi 37)) E hw1 inX12 0 37 q_1436 rfl rfl (by decide) rfl rfl dX12_waits_5 ?_
  refine lv_iload_n (pc := 8) E.1 E.2.1 dX12_waits_8 rfl (lv_at hl3 1 rfl) ?_
  refine x_iastG (pc := 9) (f := (mf 36)) (wf := fun g => (MW cI cJ M mr mi (va_up mf 36 g) mg)) E hw1 20 rfl (inbE (a := (mi 37).toInt) rfl (by omega)) (fun _ => rfl) dX12_waits_9 (fun g_4 H locs eg_4 hw5 => ?_)
  refine lv_aload_n (pc := 10) E.1 E.2.1 dX12_waits_10 rfl (lv_at hl3 0 rfl) ?_
  refine lv_aload_n (pc := 11) E.1 E.2.1 dX12_waits_11 rfl (lv_at hl3 0 rfl) ?_
  refine x_get (pc := 12) (T := TX12) (N := 70) (ci := 12) (v := .int (mi 37)) E hw5 inX12 0 37 q_1436 rfl rfl (by decide) rfl rfl dX12_waits_12 ?_
  refine lv_iconst (pc := 15) (v := 1) E.1 E.2.1 dX12_waits_15 (by decide +kernel) ?_
  refine lv_iadd (pc := 16) E.1 E.2.1 dX12_waits_16 ?_
  refine lv_topi (fun v_6 ev_6 => ?_)
  have hv_6 : v_6.toInt = (mi 37).toInt + 1 := by rw [ev_6]; exact addE rfl (by decide +kernel) (by omega)
  refine x_put (pc := 17) (T := TX12) (N := 70) (ci := 12) (ws' := (MW cI cJ M mr (upd mi 37 v_6) (va_up mf 36 g_4) mg)) E hw5 inX12 tyX12_ok nmX12 0 37 q_1436 rfl rfl (by decide) rfl rfl rfl rfl (Nat.le_of_ble_eq_true rfl) rfl dX12_waits_17 (fun H locs hw7 => ?_)
  exact em_v (w1 := (fun (u : (Nat → Int32) × Int32) => (MW cI cJ M mr (upd mi 37 u.2) (va_up mf 36 u.1) mg))) E hr hlk (g_4, v_6) hw7 ⟨(by show v_6.toInt = (mi 37).toInt + 1; omega), (show g_4 (((mi 37).toInt).toNat) = z_what ∧ ∀ j : Nat, j < ((mi 37).toInt).toNat → g_4 j = (mf 36) j from (pd_wt eg_4 (by omega)))⟩ (Nat.le_of_ble_eq_true rfl) (Nat.le_of_ble_eq_true rfl) dX12_waits_20

set_option maxHeartbeats 4000000 in
set_option maxRecDepth 100000 in
theorem s_settles9 (l : Launch) (D : va_G) (cI cJ : ClassId) (sz M : Nat) (mr : Nat → Nat) (mi : Nat → Int32) (mf : Nat → Nat → Int32) (mg : Nat → Nat → Int64)  (h0 : 0 ≤ (mi 37).toInt ∧ (mi 37).toInt ≤ 40) (h1 : 0 ≤ (mi 34).toInt) (h2 : (mi 34).toInt + (mi 37).toInt ≤ 400) (h3 : 0 ≤ (mi 35).toInt ∧ (mi 35).toInt ≤ 8) (lf_law0 : LW 0 0 (mf 31) (mf 32) (mf 28) (mf 29) (mf 30) ((mf 27) 0).toInt 400) (lf_law1 : LW 16 400 (mf 31) (mf 32) (mf 28) (mf 29) (mf 30) ((mf 27) 1).toInt 400) : Met l yX12_settles (Cond.code yX12_settles cX12_settles 2 none :: GW) ({ frames := 2, cells := 0, slots := 0, locals := 62 } : Room) (va_Pc [.ref M, .int 9] (PW D cI cJ sz (MW cI cJ M mr mi mf mg) xT)) (va_Qv (fun (u : Int32 × (Nat → Int32) × (Nat → Int32) × Int32 × Int32) => (0 ≤ u.1.toInt) ∧ (u.1.toInt ≤ (mi 37).toInt) ∧ (u.2.2.2.1.toInt + u.1.toInt = (mi 34).toInt + (mi 37).toInt) ∧ (0 ≤ u.2.2.2.1.toInt) ∧ (u.2.2.2.2.toInt = (mi 35).toInt - (mi 37).toInt + u.1.toInt) ∧ (LW 0 0 u.2.1 u.2.2.1 (mf 28) (mf 29) (mf 30) ((mf 27) 0).toInt 400) ∧ (LW 16 400 u.2.1 u.2.2.1 (mf 28) (mf 29) (mf 30) ((mf 27) 1).toInt 400) ∧ (SE (9 : Int32) (mf 36) ((mi 37).toInt).toNat (mf 31) (mf 32) (800 + ((mi 34).toInt).toNat) (u.1.toInt).toNat u.2.1 u.2.2.1 (800 + (u.2.2.2.1.toInt).toNat)) ∧ (NT (9 : Int32) (mf 36) (u.1.toInt).toNat)) (fun u => QW D cI cJ (va_A (MW cI cJ M mr mi mf mg) sz) ((fun (u : Int32 × (Nat → Int32) × (Nat → Int32) × Int32 × Int32) => (MW cI cJ M mr (upd (upd (upd mi 37 u.1) 34 u.2.2.2.1) 35 u.2.2.2.2) (va_up (va_up mf 31 u.2.1) 32 u.2.2.1) mg)) u)) (va_A (MW cI cJ M mr mi mf mg) sz)) 0 0 (va_A (MW cI cJ M mr mi mf mg) sz) := by
  refine mk_met (y := yX12_settles) (bytes := cX12_settles) (maxL := 2) (avs := [.ref M, .int 9]) (WS := (MW cI cJ M mr mi mf mg)) (Qf := fun A => va_Qv (fun (u : Int32 × (Nat → Int32) × (Nat → Int32) × Int32 × Int32) => (0 ≤ u.1.toInt) ∧ (u.1.toInt ≤ (mi 37).toInt) ∧ (u.2.2.2.1.toInt + u.1.toInt = (mi 34).toInt + (mi 37).toInt) ∧ (0 ≤ u.2.2.2.1.toInt) ∧ (u.2.2.2.2.toInt = (mi 35).toInt - (mi 37).toInt + u.1.toInt) ∧ (LW 0 0 u.2.1 u.2.2.1 (mf 28) (mf 29) (mf 30) ((mf 27) 0).toInt 400) ∧ (LW 16 400 u.2.1 u.2.2.1 (mf 28) (mf 29) (mf 30) ((mf 27) 1).toInt 400) ∧ (SE (9 : Int32) (mf 36) ((mi 37).toInt).toNat (mf 31) (mf 32) (800 + ((mi 34).toInt).toNat) (u.1.toInt).toNat u.2.1 u.2.2.1 (800 + (u.2.2.2.1.toInt).toNat)) ∧ (NT (9 : Int32) (mf 36) (u.1.toInt).toNat)) (fun u => QW D cI cJ A ((fun (u : Int32 × (Nat → Int32) × (Nat → Int32) × Int32 × Int32) => (MW cI cJ M mr (upd (upd (upd mi 37 u.1) 34 u.2.2.2.1) 35 u.2.2.2.2) (va_up (va_up mf 31 u.2.1) 32 u.2.2.1) mg)) u)) A) (by decide) (Nat.le_of_ble_eq_true rfl) ?_
  intro p e s m below meth c A ls E hr hlk hnm hX hw1 hl2
  have hl3 : lv_has ls 2 [(0, .ref M), (1, .int 9)] := hl2
  have loop_4 : ∀ (k : Nat) (x_5 : Int32) (x_6 : Int32) (x_7 : Int32) (g_8 : Nat → Int32) (g_9 : Nat → Int32) (H : Heap) (locs : List Loc) (ls : Array Slot), (0 ≤ x_5.toInt) ∧ (x_5.toInt ≤ (mi 37).toInt) ∧ (x_6.toInt + x_5.toInt = (mi 34).toInt + (mi 37).toInt) ∧ (0 ≤ x_6.toInt) ∧ (x_7.toInt = (mi 35).toInt - (mi 37).toInt + x_5.toInt) ∧ (SE (9 : Int32) (mf 36) ((mi 37).toInt).toNat (mf 31) (mf 32) (800 + ((mi 34).toInt).toNat) (x_5.toInt).toNat g_8 g_9 (800 + (x_6.toInt).toNat)) ∧ (LW 0 0 g_8 g_9 (mf 28) (mf 29) (mf 30) ((mf 27) 0).toInt 400) ∧ (LW 16 400 g_8 g_9 (mf 28) (mf 29) (mf 30) ((mf 27) 1).toInt 400) → x_5.toInt < (k : Int) → WD D A s.heap (MW cI cJ M mr (upd (upd (upd mi 34 x_6) 35 x_7) 37 x_5) (va_up (va_up mf 31 g_8) 32 g_9) mg) H locs → lv_has ls 2 [(0, .ref M), (1, .int 9)] → W p l e ({ frames := 2, cells := 0, slots := 0, locals := 62 } : Room) s m ([.ref M, .int 9] : List Value).toArray below meth c H locs 0 0 (MQ below (va_Qv (fun (u : Int32 × (Nat → Int32) × (Nat → Int32) × Int32 × Int32) => (0 ≤ u.1.toInt) ∧ (u.1.toInt ≤ (mi 37).toInt) ∧ (u.2.2.2.1.toInt + u.1.toInt = (mi 34).toInt + (mi 37).toInt) ∧ (0 ≤ u.2.2.2.1.toInt) ∧ (u.2.2.2.2.toInt = (mi 35).toInt - (mi 37).toInt + u.1.toInt) ∧ (LW 0 0 u.2.1 u.2.2.1 (mf 28) (mf 29) (mf 30) ((mf 27) 0).toInt 400) ∧ (LW 16 400 u.2.1 u.2.2.1 (mf 28) (mf 29) (mf 30) ((mf 27) 1).toInt 400) ∧ (SE (9 : Int32) (mf 36) ((mi 37).toInt).toNat (mf 31) (mf 32) (800 + ((mi 34).toInt).toNat) (u.1.toInt).toNat u.2.1 u.2.2.1 (800 + (u.2.2.2.1.toInt).toNat)) ∧ (NT (9 : Int32) (mf 36) (u.1.toInt).toNat)) (fun u => QW D cI cJ A ((fun (u : Int32 × (Nat → Int32) × (Nat → Int32) × Int32 × Int32) => (MW cI cJ M mr (upd (upd (upd mi 37 u.1) 34 u.2.2.2.1) 35 u.2.2.2.2) (va_up (va_up mf 31 u.2.1) 32 u.2.2.1) mg)) u)) A) ([.ref M, .int 9] : List Value).toArray s 0 0 A) (F0 m 0 ls []) := by
    intro k
    induction k with
    | zero =>
      intro x_5 x_6 x_7 g_8 g_9 _ _ _ hinv hm
      obtain ⟨hi_9_0, hi_9_1, hi_9_2, hi_9_3, hi_9_4, hi_9_5, hi_9_6, hi_9_7⟩ := hinv
      exact absurd hm (by omega)
    | succ k ih_10 =>
      intro x_5 x_6 x_7 g_8 g_9 H locs ls hinv hm hw11 hl12
      obtain ⟨hi_9_0, hi_9_1, hi_9_2, hi_9_3, hi_9_4, hi_9_5, hi_9_6, hi_9_7⟩ := hinv
      refine lv_aload_n (pc := 0) E.1 E.2.1 dX12_settles_0 rfl (lv_at hl12 0 rfl) ?_
      refine x_get (pc := 1) (T := TX12) (N := 70) (ci := 12) (v := .int x_5) E hw11 inX12 0 37 q_1436 rfl rfl (by decide) rfl rfl dX12_settles_1 ?_
      refine lv_if_le (pc := 4) (tgt := 57) E.1 E.2.1 dX12_settles_4 (by decide) (fun c_13 => ?_) (fun c_13 => ?_)
      · skip
        have hc_13 := leE (a := x_5.toInt) (b := 0) rfl (by decide +kernel) c_13
        exact em_v (w1 := (fun (u : Int32 × (Nat → Int32) × (Nat → Int32) × Int32 × Int32) => (MW cI cJ M mr (upd (upd (upd mi 37 u.1) 34 u.2.2.2.1) 35 u.2.2.2.2) (va_up (va_up mf 31 u.2.1) 32 u.2.2.1) mg))) E hr hlk (x_5, g_8, g_9, x_6, x_7) hw11 ⟨hi_9_0, hi_9_1, hi_9_2, hi_9_3, hi_9_4, hi_9_6, hi_9_7, (show SE (9 : Int32) (mf 36) ((mi 37).toInt).toNat (mf 31) (mf 32) (800 + ((mi 34).toInt).toNat) (x_5.toInt).toNat g_8 g_9 (800 + (x_6.toInt).toNat) from hi_9_5), (show NT (9 : Int32) (mf 36) (x_5.toInt).toNat from (Or.inl (by omega)))⟩ (Nat.le_of_ble_eq_true rfl) (Nat.le_of_ble_eq_true rfl) dX12_settles_57
      · skip
        have hc_13 := nleE (a := x_5.toInt) (b := 0) rfl (by decide +kernel) c_13
        refine lv_aload_n (pc := 7) E.1 E.2.1 dX12_settles_7 rfl (lv_at hl12 0 rfl) ?_
        refine x_get (pc := 8) (T := TX12) (N := 70) (ci := 12) (v := .ref (mr 36)) E hw11 inX12 0 36 q_1435 rfl rfl (by decide) rfl rfl dX12_settles_8 ?_
        refine lv_aload_n (pc := 11) E.1 E.2.1 dX12_settles_11 rfl (lv_at hl12 0 rfl) ?_
        refine x_get (pc := 12) (T := TX12) (N := 70) (ci := 12) (v := .int x_5) E hw11 inX12 0 37 q_1436 rfl rfl (by decide) rfl rfl dX12_settles_12 ?_
        refine lv_iconst (pc := 15) (v := 1) E.1 E.2.1 dX12_settles_15 (by decide +kernel) ?_
        refine lv_isub (pc := 16) E.1 E.2.1 dX12_settles_16 ?_
        refine lv_topi (fun v_14 ev_14 => ?_)
        have hv_14 : v_14.toInt = x_5.toInt - 1 := by rw [ev_14]; exact subE rfl (by decide +kernel) (by omega)
        refine x_iald (pc := 17) (f := (mf 36)) E hw11 20 rfl (inbE (a := v_14.toInt) rfl (by omega)) dX12_settles_17 ?_
        refine lv_topi (fun v_15 ev_15 => ?_)
        refine lv_iload_n (pc := 18) E.1 E.2.1 dX12_settles_18 rfl (lv_at hl12 1 rfl) ?_
        refine lv_icmp_ne (pc := 19) (tgt := 57) E.1 E.2.1 dX12_settles_19 (by decide) (fun c_16 => ?_) (fun c_16 => ?_)
        · skip
          have hc_16 := neE (a := v_15.toInt) (b := 9) rfl (by decide +kernel) c_16
          exact em_v (w1 := (fun (u : Int32 × (Nat → Int32) × (Nat → Int32) × Int32 × Int32) => (MW cI cJ M mr (upd (upd (upd mi 37 u.1) 34 u.2.2.2.1) 35 u.2.2.2.2) (va_up (va_up mf 31 u.2.1) 32 u.2.2.1) mg))) E hr hlk (x_5, g_8, g_9, x_6, x_7) hw11 ⟨hi_9_0, hi_9_1, hi_9_2, hi_9_3, hi_9_4, hi_9_6, hi_9_7, (show SE (9 : Int32) (mf 36) ((mi 37).toInt).toNat (mf 31) (mf 32) (800 + ((mi 34).toInt).toNat) (x_5.toInt).toNat g_8 g_9 (800 + (x_6.toInt).toNat) from hi_9_5), (show NT (9 : Int32) (mf 36) (x_5.toInt).toNat from (Or.inr (pd_ne ev_15 (by have k_9 : (9 : Int32).toInt = 9 := (by decide +kernel); omega) (by omega))))⟩ (Nat.le_of_ble_eq_true rfl) (Nat.le_of_ble_eq_true rfl) dX12_settles_57
        · skip
          have hc_16 := eqE (a := v_15.toInt) (b := 9) rfl (by decide +kernel) c_16
          refine lv_aload_n (pc := 22) E.1 E.2.1 dX12_settles_22 rfl (lv_at hl12 0 rfl) ?_
          refine lv_aload_n (pc := 23) E.1 E.2.1 dX12_settles_23 rfl (lv_at hl12 0 rfl) ?_
          refine x_get (pc := 24) (T := TX12) (N := 70) (ci := 12) (v := .int x_5) E hw11 inX12 0 37 q_1436 rfl rfl (by decide) rfl rfl dX12_settles_24 ?_
          refine lv_iconst (pc := 27) (v := 1) E.1 E.2.1 dX12_settles_27 (by decide +kernel) ?_
          refine lv_isub (pc := 28) E.1 E.2.1 dX12_settles_28 ?_
          refine lv_topi (fun v_17 ev_17 => ?_)
          have hv_17 : v_17.toInt = x_5.toInt - 1 := by rw [ev_17]; exact subE rfl (by decide +kernel) (by omega)
          refine x_put (pc := 29) (T := TX12) (N := 70) (ci := 12) (ws' := (MW cI cJ M mr (upd (upd (upd mi 34 x_6) 35 x_7) 37 v_17) (va_up (va_up mf 31 g_8) 32 g_9) mg)) E hw11 inX12 tyX12_ok nmX12 0 37 q_1436 rfl rfl (by decide) rfl rfl rfl rfl (Nat.le_of_ble_eq_true rfl) rfl dX12_settles_29 (fun H locs hw18 => ?_)
          refine lv_aload_n (pc := 32) E.1 E.2.1 dX12_settles_32 rfl (lv_at hl12 0 rfl) ?_
          refine lv_iload_n (pc := 33) E.1 E.2.1 dX12_settles_33 rfl (lv_at hl12 1 rfl) ?_
          refine lv_iconst (pc := 34) (v := 0) E.1 E.2.1 dX12_settles_34 (by decide +kernel) ?_
          refine cm_v (pc := 35) hw18 (rn_M (As := [.int 9, .int 0]) (rest := []) E hw18 (s_emits2 l D cI cJ _ M mr (upd (upd (upd mi 34 x_6) 35 x_7) 37 v_17) (va_up (va_up mf 31 g_8) 32 g_9) mg 9 0 (by show 0 ≤ x_6.toInt ∧ x_6.toInt ≤ 399; omega) (show LW 0 0 g_8 g_9 (mf 28) (mf 29) (mf 30) ((mf 27) 0).toInt 400 from hi_9_6) (show LW 16 400 g_8 g_9 (mf 28) (mf 29) (mf 30) ((mf 27) 1).toInt 400 from hi_9_7)) (gdV q_1786 q_1788 q_82 q_162 q_1789) hdV_X12_emits ⟨rfl, rfl⟩ ⟨(Nat.le_of_ble_eq_true rfl), (Nat.le_of_ble_eq_true rfl)⟩ ⟨(Nat.le_of_ble_eq_true rfl), (Nat.le_of_ble_eq_true rfl)⟩ 12 rfl rfl rfl rfl hl12.1 rfl (Nat.le_of_ble_eq_true rfl) dX12_settles_35) (fun u_19 H1 locs hp hw21 => ?_)
          obtain ⟨gop_22, garg_23, ncodes_24⟩ := u_19
          generalize H1 = H at hw21 ⊢
          have hw25 : WD D A s.heap (MW cI cJ M mr (upd (upd (upd mi 34 ncodes_24) 35 x_7) 37 v_17) (va_up (va_up mf 31 gop_22) 32 garg_23) mg) H locs := hw21
          obtain ⟨hp_26, hp_27, hp_28, hp_29⟩ := hp
          have hp_26 : ncodes_24.toInt = x_6.toInt + 1 := hp_26
          have hp_27 : LW 0 0 gop_22 garg_23 (mf 28) (mf 29) (mf 30) ((mf 27) 0).toInt 400 := hp_27
          have hp_28 : LW 16 400 gop_22 garg_23 (mf 28) (mf 29) (mf 30) ((mf 27) 1).toInt 400 := hp_28
          have hp_29 : EM g_8 g_9 gop_22 garg_23 (800 + (x_6.toInt).toNat) (9 : Int32) (0 : Int32) := hp_29
          refine lv_iload_n (pc := 38) E.1 E.2.1 dX12_settles_38 rfl (lv_at hl12 1 rfl) ?_
          refine lv_bipush (pc := 39) (v := 9) E.1 E.2.1 dX12_settles_39 (by decide +kernel) ?_
          refine lv_icmp_ne (pc := 41) (tgt := 0) E.1 E.2.1 dX12_settles_41 (by decide) (fun c_30 => absurd (meqE (a := 9) (b := 9) (by decide +kernel) (by decide +kernel) (by omega)) c_30) (fun _ => ?_)
          refine lv_aload_n (pc := 44) E.1 E.2.1 dX12_settles_44 rfl (lv_at hl12 0 rfl) ?_
          refine lv_aload_n (pc := 45) E.1 E.2.1 dX12_settles_45 rfl (lv_at hl12 0 rfl) ?_
          refine x_get (pc := 46) (T := TX12) (N := 70) (ci := 12) (v := .int x_7) E hw25 inX12 0 35 q_1434 rfl rfl (by decide) rfl rfl dX12_settles_46 ?_
          refine lv_iconst (pc := 49) (v := 1) E.1 E.2.1 dX12_settles_49 (by decide +kernel) ?_
          refine lv_isub (pc := 50) E.1 E.2.1 dX12_settles_50 ?_
          refine lv_topi (fun v_31 ev_31 => ?_)
          have hv_31 : v_31.toInt = x_7.toInt - 1 := by rw [ev_31]; exact subE rfl (by decide +kernel) (by omega)
          refine x_put (pc := 51) (T := TX12) (N := 70) (ci := 12) (ws' := (MW cI cJ M mr (upd (upd (upd mi 34 ncodes_24) 35 v_31) 37 v_17) (va_up (va_up mf 31 gop_22) 32 garg_23) mg)) E hw25 inX12 tyX12_ok nmX12 0 35 q_1434 rfl rfl (by decide) rfl rfl rfl rfl (Nat.le_of_ble_eq_true rfl) rfl dX12_settles_51 (fun H locs hw32 => ?_)
          refine lv_goto (pc := 54) (tgt := 0) E.1 E.2.1 dX12_settles_54 (by decide) ?_
          exact ih_10 v_17 ncodes_24 v_31 gop_22 garg_23 _ _ _ ⟨(by show 0 ≤ v_17.toInt; omega), (by show v_17.toInt ≤ (mi 37).toInt; omega), (by show ncodes_24.toInt + v_17.toInt = (mi 34).toInt + (mi 37).toInt; omega), (by show 0 ≤ ncodes_24.toInt; omega), (by show v_31.toInt = (mi 35).toInt - (mi 37).toInt + v_17.toInt; omega), (SE_step hi_9_5 (pd_eq ev_15 (by have k_9 : (9 : Int32).toInt = 9 := (by decide +kernel); omega) (by omega)) (by omega) hp_29 (by omega)), (show LW 0 0 gop_22 garg_23 (mf 28) (mf 29) (mf 30) ((mf 27) 0).toInt 400 from hp_27), (show LW 16 400 gop_22 garg_23 (mf 28) (mf 29) (mf 30) ((mf 27) 1).toInt 400 from hp_28)⟩ (by omega) hw32 (lv_sub hl12 [0, 1] rfl)
  exact loop_4 (Int.toNat ((mi 37).toInt) + 1) (mi 37) (mi 34) (mi 35) (mf 31) (mf 32) _ _ _ ⟨h0.1, (by show (mi 37).toInt ≤ (mi 37).toInt; omega), rfl, h1, (by show (mi 35).toInt = (mi 35).toInt - (mi 37).toInt + (mi 37).toInt; omega), SE_nil, (show LW 0 0 (mf 31) (mf 32) (mf 28) (mf 29) (mf 30) ((mf 27) 0).toInt 400 from lf_law0), (show LW 16 400 (mf 31) (mf 32) (mf 28) (mf 29) (mf 30) ((mf 27) 1).toInt 400 from lf_law1)⟩ (by omega) hw1 (lv_sub hl3 [0, 1] rfl)

set_option maxHeartbeats 4000000 in
set_option maxRecDepth 100000 in
theorem s_settles10 (l : Launch) (D : va_G) (cI cJ : ClassId) (sz M : Nat) (mr : Nat → Nat) (mi : Nat → Int32) (mf : Nat → Nat → Int32) (mg : Nat → Nat → Int64)  (h0 : 0 ≤ (mi 37).toInt ∧ (mi 37).toInt ≤ 40) (h1 : 0 ≤ (mi 34).toInt) (h2 : (mi 34).toInt + (mi 37).toInt ≤ 400) (h3 : 0 ≤ (mi 35).toInt ∧ (mi 35).toInt ≤ 8) (lf_law0 : LW 0 0 (mf 31) (mf 32) (mf 28) (mf 29) (mf 30) ((mf 27) 0).toInt 400) (lf_law1 : LW 16 400 (mf 31) (mf 32) (mf 28) (mf 29) (mf 30) ((mf 27) 1).toInt 400) : Met l yX12_settles (Cond.code yX12_settles cX12_settles 2 none :: GW) ({ frames := 2, cells := 0, slots := 0, locals := 62 } : Room) (va_Pc [.ref M, .int 10] (PW D cI cJ sz (MW cI cJ M mr mi mf mg) xT)) (va_Qv (fun (u : Int32 × (Nat → Int32) × (Nat → Int32) × Int32) => (0 ≤ u.1.toInt) ∧ (u.1.toInt ≤ (mi 37).toInt) ∧ (u.2.2.2.toInt + u.1.toInt = (mi 34).toInt + (mi 37).toInt) ∧ (0 ≤ u.2.2.2.toInt) ∧ (LW 0 0 u.2.1 u.2.2.1 (mf 28) (mf 29) (mf 30) ((mf 27) 0).toInt 400) ∧ (LW 16 400 u.2.1 u.2.2.1 (mf 28) (mf 29) (mf 30) ((mf 27) 1).toInt 400) ∧ (SE (10 : Int32) (mf 36) ((mi 37).toInt).toNat (mf 31) (mf 32) (800 + ((mi 34).toInt).toNat) (u.1.toInt).toNat u.2.1 u.2.2.1 (800 + (u.2.2.2.toInt).toNat)) ∧ (NT (10 : Int32) (mf 36) (u.1.toInt).toNat)) (fun u => QW D cI cJ (va_A (MW cI cJ M mr mi mf mg) sz) ((fun (u : Int32 × (Nat → Int32) × (Nat → Int32) × Int32) => (MW cI cJ M mr (upd (upd mi 37 u.1) 34 u.2.2.2) (va_up (va_up mf 31 u.2.1) 32 u.2.2.1) mg)) u)) (va_A (MW cI cJ M mr mi mf mg) sz)) 0 0 (va_A (MW cI cJ M mr mi mf mg) sz) := by
  refine mk_met (y := yX12_settles) (bytes := cX12_settles) (maxL := 2) (avs := [.ref M, .int 10]) (WS := (MW cI cJ M mr mi mf mg)) (Qf := fun A => va_Qv (fun (u : Int32 × (Nat → Int32) × (Nat → Int32) × Int32) => (0 ≤ u.1.toInt) ∧ (u.1.toInt ≤ (mi 37).toInt) ∧ (u.2.2.2.toInt + u.1.toInt = (mi 34).toInt + (mi 37).toInt) ∧ (0 ≤ u.2.2.2.toInt) ∧ (LW 0 0 u.2.1 u.2.2.1 (mf 28) (mf 29) (mf 30) ((mf 27) 0).toInt 400) ∧ (LW 16 400 u.2.1 u.2.2.1 (mf 28) (mf 29) (mf 30) ((mf 27) 1).toInt 400) ∧ (SE (10 : Int32) (mf 36) ((mi 37).toInt).toNat (mf 31) (mf 32) (800 + ((mi 34).toInt).toNat) (u.1.toInt).toNat u.2.1 u.2.2.1 (800 + (u.2.2.2.toInt).toNat)) ∧ (NT (10 : Int32) (mf 36) (u.1.toInt).toNat)) (fun u => QW D cI cJ A ((fun (u : Int32 × (Nat → Int32) × (Nat → Int32) × Int32) => (MW cI cJ M mr (upd (upd mi 37 u.1) 34 u.2.2.2) (va_up (va_up mf 31 u.2.1) 32 u.2.2.1) mg)) u)) A) (by decide) (Nat.le_of_ble_eq_true rfl) ?_
  intro p e s m below meth c A ls E hr hlk hnm hX hw1 hl2
  have hl3 : lv_has ls 2 [(0, .ref M), (1, .int 10)] := hl2
  have loop_4 : ∀ (k : Nat) (x_5 : Int32) (x_6 : Int32) (g_7 : Nat → Int32) (g_8 : Nat → Int32) (H : Heap) (locs : List Loc) (ls : Array Slot), (0 ≤ x_5.toInt) ∧ (x_5.toInt ≤ (mi 37).toInt) ∧ (x_6.toInt + x_5.toInt = (mi 34).toInt + (mi 37).toInt) ∧ (0 ≤ x_6.toInt) ∧ (SE (10 : Int32) (mf 36) ((mi 37).toInt).toNat (mf 31) (mf 32) (800 + ((mi 34).toInt).toNat) (x_5.toInt).toNat g_7 g_8 (800 + (x_6.toInt).toNat)) ∧ (LW 0 0 g_7 g_8 (mf 28) (mf 29) (mf 30) ((mf 27) 0).toInt 400) ∧ (LW 16 400 g_7 g_8 (mf 28) (mf 29) (mf 30) ((mf 27) 1).toInt 400) → x_5.toInt < (k : Int) → WD D A s.heap (MW cI cJ M mr (upd (upd mi 34 x_6) 37 x_5) (va_up (va_up mf 31 g_7) 32 g_8) mg) H locs → lv_has ls 2 [(0, .ref M), (1, .int 10)] → W p l e ({ frames := 2, cells := 0, slots := 0, locals := 62 } : Room) s m ([.ref M, .int 10] : List Value).toArray below meth c H locs 0 0 (MQ below (va_Qv (fun (u : Int32 × (Nat → Int32) × (Nat → Int32) × Int32) => (0 ≤ u.1.toInt) ∧ (u.1.toInt ≤ (mi 37).toInt) ∧ (u.2.2.2.toInt + u.1.toInt = (mi 34).toInt + (mi 37).toInt) ∧ (0 ≤ u.2.2.2.toInt) ∧ (LW 0 0 u.2.1 u.2.2.1 (mf 28) (mf 29) (mf 30) ((mf 27) 0).toInt 400) ∧ (LW 16 400 u.2.1 u.2.2.1 (mf 28) (mf 29) (mf 30) ((mf 27) 1).toInt 400) ∧ (SE (10 : Int32) (mf 36) ((mi 37).toInt).toNat (mf 31) (mf 32) (800 + ((mi 34).toInt).toNat) (u.1.toInt).toNat u.2.1 u.2.2.1 (800 + (u.2.2.2.toInt).toNat)) ∧ (NT (10 : Int32) (mf 36) (u.1.toInt).toNat)) (fun u => QW D cI cJ A ((fun (u : Int32 × (Nat → Int32) × (Nat → Int32) × Int32) => (MW cI cJ M mr (upd (upd mi 37 u.1) 34 u.2.2.2) (va_up (va_up mf 31 u.2.1) 32 u.2.2.1) mg)) u)) A) ([.ref M, .int 10] : List Value).toArray s 0 0 A) (F0 m 0 ls []) := by
    intro k
    induction k with
    | zero =>
      intro x_5 x_6 g_7 g_8 _ _ _ hinv hm
      obtain ⟨hi_8_0, hi_8_1, hi_8_2, hi_8_3, hi_8_4, hi_8_5, hi_8_6⟩ := hinv
      exact absurd hm (by omega)
    | succ k ih_9 =>
      intro x_5 x_6 g_7 g_8 H locs ls hinv hm hw10 hl11
      obtain ⟨hi_8_0, hi_8_1, hi_8_2, hi_8_3, hi_8_4, hi_8_5, hi_8_6⟩ := hinv
      refine lv_aload_n (pc := 0) E.1 E.2.1 dX12_settles_0 rfl (lv_at hl11 0 rfl) ?_
      refine x_get (pc := 1) (T := TX12) (N := 70) (ci := 12) (v := .int x_5) E hw10 inX12 0 37 q_1436 rfl rfl (by decide) rfl rfl dX12_settles_1 ?_
      refine lv_if_le (pc := 4) (tgt := 57) E.1 E.2.1 dX12_settles_4 (by decide) (fun c_12 => ?_) (fun c_12 => ?_)
      · skip
        have hc_12 := leE (a := x_5.toInt) (b := 0) rfl (by decide +kernel) c_12
        exact em_v (w1 := (fun (u : Int32 × (Nat → Int32) × (Nat → Int32) × Int32) => (MW cI cJ M mr (upd (upd mi 37 u.1) 34 u.2.2.2) (va_up (va_up mf 31 u.2.1) 32 u.2.2.1) mg))) E hr hlk (x_5, g_7, g_8, x_6) hw10 ⟨hi_8_0, hi_8_1, hi_8_2, hi_8_3, hi_8_5, hi_8_6, (show SE (10 : Int32) (mf 36) ((mi 37).toInt).toNat (mf 31) (mf 32) (800 + ((mi 34).toInt).toNat) (x_5.toInt).toNat g_7 g_8 (800 + (x_6.toInt).toNat) from hi_8_4), (show NT (10 : Int32) (mf 36) (x_5.toInt).toNat from (Or.inl (by omega)))⟩ (Nat.le_of_ble_eq_true rfl) (Nat.le_of_ble_eq_true rfl) dX12_settles_57
      · skip
        have hc_12 := nleE (a := x_5.toInt) (b := 0) rfl (by decide +kernel) c_12
        refine lv_aload_n (pc := 7) E.1 E.2.1 dX12_settles_7 rfl (lv_at hl11 0 rfl) ?_
        refine x_get (pc := 8) (T := TX12) (N := 70) (ci := 12) (v := .ref (mr 36)) E hw10 inX12 0 36 q_1435 rfl rfl (by decide) rfl rfl dX12_settles_8 ?_
        refine lv_aload_n (pc := 11) E.1 E.2.1 dX12_settles_11 rfl (lv_at hl11 0 rfl) ?_
        refine x_get (pc := 12) (T := TX12) (N := 70) (ci := 12) (v := .int x_5) E hw10 inX12 0 37 q_1436 rfl rfl (by decide) rfl rfl dX12_settles_12 ?_
        refine lv_iconst (pc := 15) (v := 1) E.1 E.2.1 dX12_settles_15 (by decide +kernel) ?_
        refine lv_isub (pc := 16) E.1 E.2.1 dX12_settles_16 ?_
        refine lv_topi (fun v_13 ev_13 => ?_)
        have hv_13 : v_13.toInt = x_5.toInt - 1 := by rw [ev_13]; exact subE rfl (by decide +kernel) (by omega)
        refine x_iald (pc := 17) (f := (mf 36)) E hw10 20 rfl (inbE (a := v_13.toInt) rfl (by omega)) dX12_settles_17 ?_
        refine lv_topi (fun v_14 ev_14 => ?_)
        refine lv_iload_n (pc := 18) E.1 E.2.1 dX12_settles_18 rfl (lv_at hl11 1 rfl) ?_
        refine lv_icmp_ne (pc := 19) (tgt := 57) E.1 E.2.1 dX12_settles_19 (by decide) (fun c_15 => ?_) (fun c_15 => ?_)
        · skip
          have hc_15 := neE (a := v_14.toInt) (b := 10) rfl (by decide +kernel) c_15
          exact em_v (w1 := (fun (u : Int32 × (Nat → Int32) × (Nat → Int32) × Int32) => (MW cI cJ M mr (upd (upd mi 37 u.1) 34 u.2.2.2) (va_up (va_up mf 31 u.2.1) 32 u.2.2.1) mg))) E hr hlk (x_5, g_7, g_8, x_6) hw10 ⟨hi_8_0, hi_8_1, hi_8_2, hi_8_3, hi_8_5, hi_8_6, (show SE (10 : Int32) (mf 36) ((mi 37).toInt).toNat (mf 31) (mf 32) (800 + ((mi 34).toInt).toNat) (x_5.toInt).toNat g_7 g_8 (800 + (x_6.toInt).toNat) from hi_8_4), (show NT (10 : Int32) (mf 36) (x_5.toInt).toNat from (Or.inr (pd_ne ev_14 (by have k_9 : (10 : Int32).toInt = 10 := (by decide +kernel); omega) (by omega))))⟩ (Nat.le_of_ble_eq_true rfl) (Nat.le_of_ble_eq_true rfl) dX12_settles_57
        · skip
          have hc_15 := eqE (a := v_14.toInt) (b := 10) rfl (by decide +kernel) c_15
          refine lv_aload_n (pc := 22) E.1 E.2.1 dX12_settles_22 rfl (lv_at hl11 0 rfl) ?_
          refine lv_aload_n (pc := 23) E.1 E.2.1 dX12_settles_23 rfl (lv_at hl11 0 rfl) ?_
          refine x_get (pc := 24) (T := TX12) (N := 70) (ci := 12) (v := .int x_5) E hw10 inX12 0 37 q_1436 rfl rfl (by decide) rfl rfl dX12_settles_24 ?_
          refine lv_iconst (pc := 27) (v := 1) E.1 E.2.1 dX12_settles_27 (by decide +kernel) ?_
          refine lv_isub (pc := 28) E.1 E.2.1 dX12_settles_28 ?_
          refine lv_topi (fun v_16 ev_16 => ?_)
          have hv_16 : v_16.toInt = x_5.toInt - 1 := by rw [ev_16]; exact subE rfl (by decide +kernel) (by omega)
          refine x_put (pc := 29) (T := TX12) (N := 70) (ci := 12) (ws' := (MW cI cJ M mr (upd (upd mi 34 x_6) 37 v_16) (va_up (va_up mf 31 g_7) 32 g_8) mg)) E hw10 inX12 tyX12_ok nmX12 0 37 q_1436 rfl rfl (by decide) rfl rfl rfl rfl (Nat.le_of_ble_eq_true rfl) rfl dX12_settles_29 (fun H locs hw17 => ?_)
          refine lv_aload_n (pc := 32) E.1 E.2.1 dX12_settles_32 rfl (lv_at hl11 0 rfl) ?_
          refine lv_iload_n (pc := 33) E.1 E.2.1 dX12_settles_33 rfl (lv_at hl11 1 rfl) ?_
          refine lv_iconst (pc := 34) (v := 0) E.1 E.2.1 dX12_settles_34 (by decide +kernel) ?_
          refine cm_v (pc := 35) hw17 (rn_M (As := [.int 10, .int 0]) (rest := []) E hw17 (s_emits2 l D cI cJ _ M mr (upd (upd mi 34 x_6) 37 v_16) (va_up (va_up mf 31 g_7) 32 g_8) mg 10 0 (by show 0 ≤ x_6.toInt ∧ x_6.toInt ≤ 399; omega) (show LW 0 0 g_7 g_8 (mf 28) (mf 29) (mf 30) ((mf 27) 0).toInt 400 from hi_8_5) (show LW 16 400 g_7 g_8 (mf 28) (mf 29) (mf 30) ((mf 27) 1).toInt 400 from hi_8_6)) (gdV q_1786 q_1788 q_82 q_162 q_1789) hdV_X12_emits ⟨rfl, rfl⟩ ⟨(Nat.le_of_ble_eq_true rfl), (Nat.le_of_ble_eq_true rfl)⟩ ⟨(Nat.le_of_ble_eq_true rfl), (Nat.le_of_ble_eq_true rfl)⟩ 12 rfl rfl rfl rfl hl11.1 rfl (Nat.le_of_ble_eq_true rfl) dX12_settles_35) (fun u_18 H1 locs hp hw20 => ?_)
          obtain ⟨gop_21, garg_22, ncodes_23⟩ := u_18
          generalize H1 = H at hw20 ⊢
          have hw24 : WD D A s.heap (MW cI cJ M mr (upd (upd mi 34 ncodes_23) 37 v_16) (va_up (va_up mf 31 gop_21) 32 garg_22) mg) H locs := hw20
          obtain ⟨hp_25, hp_26, hp_27, hp_28⟩ := hp
          have hp_25 : ncodes_23.toInt = x_6.toInt + 1 := hp_25
          have hp_26 : LW 0 0 gop_21 garg_22 (mf 28) (mf 29) (mf 30) ((mf 27) 0).toInt 400 := hp_26
          have hp_27 : LW 16 400 gop_21 garg_22 (mf 28) (mf 29) (mf 30) ((mf 27) 1).toInt 400 := hp_27
          have hp_28 : EM g_7 g_8 gop_21 garg_22 (800 + (x_6.toInt).toNat) (10 : Int32) (0 : Int32) := hp_28
          refine lv_iload_n (pc := 38) E.1 E.2.1 dX12_settles_38 rfl (lv_at hl11 1 rfl) ?_
          refine lv_bipush (pc := 39) (v := 9) E.1 E.2.1 dX12_settles_39 (by decide +kernel) ?_
          refine lv_icmp_ne (pc := 41) (tgt := 0) E.1 E.2.1 dX12_settles_41 (by decide) (fun _ => ?_) (fun c_29 => absurd c_29 (mneE (a := 10) (b := 9) (by decide +kernel) (by decide +kernel) (by omega)))
          exact ih_9 v_16 ncodes_23 gop_21 garg_22 _ _ _ ⟨(by show 0 ≤ v_16.toInt; omega), (by show v_16.toInt ≤ (mi 37).toInt; omega), (by show ncodes_23.toInt + v_16.toInt = (mi 34).toInt + (mi 37).toInt; omega), (by show 0 ≤ ncodes_23.toInt; omega), (SE_step hi_8_4 (pd_eq ev_14 (by have k_9 : (10 : Int32).toInt = 10 := (by decide +kernel); omega) (by omega)) (by omega) hp_28 (by omega)), (show LW 0 0 gop_21 garg_22 (mf 28) (mf 29) (mf 30) ((mf 27) 0).toInt 400 from hp_26), (show LW 16 400 gop_21 garg_22 (mf 28) (mf 29) (mf 30) ((mf 27) 1).toInt 400 from hp_27)⟩ (by omega) hw24 (lv_sub hl11 [0, 1] rfl)
  exact loop_4 (Int.toNat ((mi 37).toInt) + 1) (mi 37) (mi 34) (mf 31) (mf 32) _ _ _ ⟨h0.1, (by show (mi 37).toInt ≤ (mi 37).toInt; omega), rfl, h1, SE_nil, (show LW 0 0 (mf 31) (mf 32) (mf 28) (mf 29) (mf 30) ((mf 27) 0).toInt 400 from lf_law0), (show LW 16 400 (mf 31) (mf 32) (mf 28) (mf 29) (mf 30) ((mf 27) 1).toInt 400 from lf_law1)⟩ (by omega) hw1 (lv_sub hl3 [0, 1] rfl)

set_option maxHeartbeats 4000000 in
set_option maxRecDepth 100000 in
theorem s_settles11 (l : Launch) (D : va_G) (cI cJ : ClassId) (sz M : Nat) (mr : Nat → Nat) (mi : Nat → Int32) (mf : Nat → Nat → Int32) (mg : Nat → Nat → Int64)  (h0 : 0 ≤ (mi 37).toInt ∧ (mi 37).toInt ≤ 40) (h1 : 0 ≤ (mi 34).toInt) (h2 : (mi 34).toInt + (mi 37).toInt ≤ 400) (h3 : 0 ≤ (mi 35).toInt ∧ (mi 35).toInt ≤ 8) (lf_law0 : LW 0 0 (mf 31) (mf 32) (mf 28) (mf 29) (mf 30) ((mf 27) 0).toInt 400) (lf_law1 : LW 16 400 (mf 31) (mf 32) (mf 28) (mf 29) (mf 30) ((mf 27) 1).toInt 400) : Met l yX12_settles (Cond.code yX12_settles cX12_settles 2 none :: GW) ({ frames := 2, cells := 0, slots := 0, locals := 62 } : Room) (va_Pc [.ref M, .int 11] (PW D cI cJ sz (MW cI cJ M mr mi mf mg) xT)) (va_Qv (fun (u : Int32 × (Nat → Int32) × (Nat → Int32) × Int32) => (0 ≤ u.1.toInt) ∧ (u.1.toInt ≤ (mi 37).toInt) ∧ (u.2.2.2.toInt + u.1.toInt = (mi 34).toInt + (mi 37).toInt) ∧ (0 ≤ u.2.2.2.toInt) ∧ (LW 0 0 u.2.1 u.2.2.1 (mf 28) (mf 29) (mf 30) ((mf 27) 0).toInt 400) ∧ (LW 16 400 u.2.1 u.2.2.1 (mf 28) (mf 29) (mf 30) ((mf 27) 1).toInt 400) ∧ (SE (11 : Int32) (mf 36) ((mi 37).toInt).toNat (mf 31) (mf 32) (800 + ((mi 34).toInt).toNat) (u.1.toInt).toNat u.2.1 u.2.2.1 (800 + (u.2.2.2.toInt).toNat)) ∧ (NT (11 : Int32) (mf 36) (u.1.toInt).toNat)) (fun u => QW D cI cJ (va_A (MW cI cJ M mr mi mf mg) sz) ((fun (u : Int32 × (Nat → Int32) × (Nat → Int32) × Int32) => (MW cI cJ M mr (upd (upd mi 37 u.1) 34 u.2.2.2) (va_up (va_up mf 31 u.2.1) 32 u.2.2.1) mg)) u)) (va_A (MW cI cJ M mr mi mf mg) sz)) 0 0 (va_A (MW cI cJ M mr mi mf mg) sz) := by
  refine mk_met (y := yX12_settles) (bytes := cX12_settles) (maxL := 2) (avs := [.ref M, .int 11]) (WS := (MW cI cJ M mr mi mf mg)) (Qf := fun A => va_Qv (fun (u : Int32 × (Nat → Int32) × (Nat → Int32) × Int32) => (0 ≤ u.1.toInt) ∧ (u.1.toInt ≤ (mi 37).toInt) ∧ (u.2.2.2.toInt + u.1.toInt = (mi 34).toInt + (mi 37).toInt) ∧ (0 ≤ u.2.2.2.toInt) ∧ (LW 0 0 u.2.1 u.2.2.1 (mf 28) (mf 29) (mf 30) ((mf 27) 0).toInt 400) ∧ (LW 16 400 u.2.1 u.2.2.1 (mf 28) (mf 29) (mf 30) ((mf 27) 1).toInt 400) ∧ (SE (11 : Int32) (mf 36) ((mi 37).toInt).toNat (mf 31) (mf 32) (800 + ((mi 34).toInt).toNat) (u.1.toInt).toNat u.2.1 u.2.2.1 (800 + (u.2.2.2.toInt).toNat)) ∧ (NT (11 : Int32) (mf 36) (u.1.toInt).toNat)) (fun u => QW D cI cJ A ((fun (u : Int32 × (Nat → Int32) × (Nat → Int32) × Int32) => (MW cI cJ M mr (upd (upd mi 37 u.1) 34 u.2.2.2) (va_up (va_up mf 31 u.2.1) 32 u.2.2.1) mg)) u)) A) (by decide) (Nat.le_of_ble_eq_true rfl) ?_
  intro p e s m below meth c A ls E hr hlk hnm hX hw1 hl2
  have hl3 : lv_has ls 2 [(0, .ref M), (1, .int 11)] := hl2
  have loop_4 : ∀ (k : Nat) (x_5 : Int32) (x_6 : Int32) (g_7 : Nat → Int32) (g_8 : Nat → Int32) (H : Heap) (locs : List Loc) (ls : Array Slot), (0 ≤ x_5.toInt) ∧ (x_5.toInt ≤ (mi 37).toInt) ∧ (x_6.toInt + x_5.toInt = (mi 34).toInt + (mi 37).toInt) ∧ (0 ≤ x_6.toInt) ∧ (SE (11 : Int32) (mf 36) ((mi 37).toInt).toNat (mf 31) (mf 32) (800 + ((mi 34).toInt).toNat) (x_5.toInt).toNat g_7 g_8 (800 + (x_6.toInt).toNat)) ∧ (LW 0 0 g_7 g_8 (mf 28) (mf 29) (mf 30) ((mf 27) 0).toInt 400) ∧ (LW 16 400 g_7 g_8 (mf 28) (mf 29) (mf 30) ((mf 27) 1).toInt 400) → x_5.toInt < (k : Int) → WD D A s.heap (MW cI cJ M mr (upd (upd mi 34 x_6) 37 x_5) (va_up (va_up mf 31 g_7) 32 g_8) mg) H locs → lv_has ls 2 [(0, .ref M), (1, .int 11)] → W p l e ({ frames := 2, cells := 0, slots := 0, locals := 62 } : Room) s m ([.ref M, .int 11] : List Value).toArray below meth c H locs 0 0 (MQ below (va_Qv (fun (u : Int32 × (Nat → Int32) × (Nat → Int32) × Int32) => (0 ≤ u.1.toInt) ∧ (u.1.toInt ≤ (mi 37).toInt) ∧ (u.2.2.2.toInt + u.1.toInt = (mi 34).toInt + (mi 37).toInt) ∧ (0 ≤ u.2.2.2.toInt) ∧ (LW 0 0 u.2.1 u.2.2.1 (mf 28) (mf 29) (mf 30) ((mf 27) 0).toInt 400) ∧ (LW 16 400 u.2.1 u.2.2.1 (mf 28) (mf 29) (mf 30) ((mf 27) 1).toInt 400) ∧ (SE (11 : Int32) (mf 36) ((mi 37).toInt).toNat (mf 31) (mf 32) (800 + ((mi 34).toInt).toNat) (u.1.toInt).toNat u.2.1 u.2.2.1 (800 + (u.2.2.2.toInt).toNat)) ∧ (NT (11 : Int32) (mf 36) (u.1.toInt).toNat)) (fun u => QW D cI cJ A ((fun (u : Int32 × (Nat → Int32) × (Nat → Int32) × Int32) => (MW cI cJ M mr (upd (upd mi 37 u.1) 34 u.2.2.2) (va_up (va_up mf 31 u.2.1) 32 u.2.2.1) mg)) u)) A) ([.ref M, .int 11] : List Value).toArray s 0 0 A) (F0 m 0 ls []) := by
    intro k
    induction k with
    | zero =>
      intro x_5 x_6 g_7 g_8 _ _ _ hinv hm
      obtain ⟨hi_8_0, hi_8_1, hi_8_2, hi_8_3, hi_8_4, hi_8_5, hi_8_6⟩ := hinv
      exact absurd hm (by omega)
    | succ k ih_9 =>
      intro x_5 x_6 g_7 g_8 H locs ls hinv hm hw10 hl11
      obtain ⟨hi_8_0, hi_8_1, hi_8_2, hi_8_3, hi_8_4, hi_8_5, hi_8_6⟩ := hinv
      refine lv_aload_n (pc := 0) E.1 E.2.1 dX12_settles_0 rfl (lv_at hl11 0 rfl) ?_
      refine x_get (pc := 1) (T := TX12) (N := 70) (ci := 12) (v := .int x_5) E hw10 inX12 0 37 q_1436 rfl rfl (by decide) rfl rfl dX12_settles_1 ?_
      refine lv_if_le (pc := 4) (tgt := 57) E.1 E.2.1 dX12_settles_4 (by decide) (fun c_12 => ?_) (fun c_12 => ?_)
      · skip
        have hc_12 := leE (a := x_5.toInt) (b := 0) rfl (by decide +kernel) c_12
        exact em_v (w1 := (fun (u : Int32 × (Nat → Int32) × (Nat → Int32) × Int32) => (MW cI cJ M mr (upd (upd mi 37 u.1) 34 u.2.2.2) (va_up (va_up mf 31 u.2.1) 32 u.2.2.1) mg))) E hr hlk (x_5, g_7, g_8, x_6) hw10 ⟨hi_8_0, hi_8_1, hi_8_2, hi_8_3, hi_8_5, hi_8_6, (show SE (11 : Int32) (mf 36) ((mi 37).toInt).toNat (mf 31) (mf 32) (800 + ((mi 34).toInt).toNat) (x_5.toInt).toNat g_7 g_8 (800 + (x_6.toInt).toNat) from hi_8_4), (show NT (11 : Int32) (mf 36) (x_5.toInt).toNat from (Or.inl (by omega)))⟩ (Nat.le_of_ble_eq_true rfl) (Nat.le_of_ble_eq_true rfl) dX12_settles_57
      · skip
        have hc_12 := nleE (a := x_5.toInt) (b := 0) rfl (by decide +kernel) c_12
        refine lv_aload_n (pc := 7) E.1 E.2.1 dX12_settles_7 rfl (lv_at hl11 0 rfl) ?_
        refine x_get (pc := 8) (T := TX12) (N := 70) (ci := 12) (v := .ref (mr 36)) E hw10 inX12 0 36 q_1435 rfl rfl (by decide) rfl rfl dX12_settles_8 ?_
        refine lv_aload_n (pc := 11) E.1 E.2.1 dX12_settles_11 rfl (lv_at hl11 0 rfl) ?_
        refine x_get (pc := 12) (T := TX12) (N := 70) (ci := 12) (v := .int x_5) E hw10 inX12 0 37 q_1436 rfl rfl (by decide) rfl rfl dX12_settles_12 ?_
        refine lv_iconst (pc := 15) (v := 1) E.1 E.2.1 dX12_settles_15 (by decide +kernel) ?_
        refine lv_isub (pc := 16) E.1 E.2.1 dX12_settles_16 ?_
        refine lv_topi (fun v_13 ev_13 => ?_)
        have hv_13 : v_13.toInt = x_5.toInt - 1 := by rw [ev_13]; exact subE rfl (by decide +kernel) (by omega)
        refine x_iald (pc := 17) (f := (mf 36)) E hw10 20 rfl (inbE (a := v_13.toInt) rfl (by omega)) dX12_settles_17 ?_
        refine lv_topi (fun v_14 ev_14 => ?_)
        refine lv_iload_n (pc := 18) E.1 E.2.1 dX12_settles_18 rfl (lv_at hl11 1 rfl) ?_
        refine lv_icmp_ne (pc := 19) (tgt := 57) E.1 E.2.1 dX12_settles_19 (by decide) (fun c_15 => ?_) (fun c_15 => ?_)
        · skip
          have hc_15 := neE (a := v_14.toInt) (b := 11) rfl (by decide +kernel) c_15
          exact em_v (w1 := (fun (u : Int32 × (Nat → Int32) × (Nat → Int32) × Int32) => (MW cI cJ M mr (upd (upd mi 37 u.1) 34 u.2.2.2) (va_up (va_up mf 31 u.2.1) 32 u.2.2.1) mg))) E hr hlk (x_5, g_7, g_8, x_6) hw10 ⟨hi_8_0, hi_8_1, hi_8_2, hi_8_3, hi_8_5, hi_8_6, (show SE (11 : Int32) (mf 36) ((mi 37).toInt).toNat (mf 31) (mf 32) (800 + ((mi 34).toInt).toNat) (x_5.toInt).toNat g_7 g_8 (800 + (x_6.toInt).toNat) from hi_8_4), (show NT (11 : Int32) (mf 36) (x_5.toInt).toNat from (Or.inr (pd_ne ev_14 (by have k_9 : (11 : Int32).toInt = 11 := (by decide +kernel); omega) (by omega))))⟩ (Nat.le_of_ble_eq_true rfl) (Nat.le_of_ble_eq_true rfl) dX12_settles_57
        · skip
          have hc_15 := eqE (a := v_14.toInt) (b := 11) rfl (by decide +kernel) c_15
          refine lv_aload_n (pc := 22) E.1 E.2.1 dX12_settles_22 rfl (lv_at hl11 0 rfl) ?_
          refine lv_aload_n (pc := 23) E.1 E.2.1 dX12_settles_23 rfl (lv_at hl11 0 rfl) ?_
          refine x_get (pc := 24) (T := TX12) (N := 70) (ci := 12) (v := .int x_5) E hw10 inX12 0 37 q_1436 rfl rfl (by decide) rfl rfl dX12_settles_24 ?_
          refine lv_iconst (pc := 27) (v := 1) E.1 E.2.1 dX12_settles_27 (by decide +kernel) ?_
          refine lv_isub (pc := 28) E.1 E.2.1 dX12_settles_28 ?_
          refine lv_topi (fun v_16 ev_16 => ?_)
          have hv_16 : v_16.toInt = x_5.toInt - 1 := by rw [ev_16]; exact subE rfl (by decide +kernel) (by omega)
          refine x_put (pc := 29) (T := TX12) (N := 70) (ci := 12) (ws' := (MW cI cJ M mr (upd (upd mi 34 x_6) 37 v_16) (va_up (va_up mf 31 g_7) 32 g_8) mg)) E hw10 inX12 tyX12_ok nmX12 0 37 q_1436 rfl rfl (by decide) rfl rfl rfl rfl (Nat.le_of_ble_eq_true rfl) rfl dX12_settles_29 (fun H locs hw17 => ?_)
          refine lv_aload_n (pc := 32) E.1 E.2.1 dX12_settles_32 rfl (lv_at hl11 0 rfl) ?_
          refine lv_iload_n (pc := 33) E.1 E.2.1 dX12_settles_33 rfl (lv_at hl11 1 rfl) ?_
          refine lv_iconst (pc := 34) (v := 0) E.1 E.2.1 dX12_settles_34 (by decide +kernel) ?_
          refine cm_v (pc := 35) hw17 (rn_M (As := [.int 11, .int 0]) (rest := []) E hw17 (s_emits2 l D cI cJ _ M mr (upd (upd mi 34 x_6) 37 v_16) (va_up (va_up mf 31 g_7) 32 g_8) mg 11 0 (by show 0 ≤ x_6.toInt ∧ x_6.toInt ≤ 399; omega) (show LW 0 0 g_7 g_8 (mf 28) (mf 29) (mf 30) ((mf 27) 0).toInt 400 from hi_8_5) (show LW 16 400 g_7 g_8 (mf 28) (mf 29) (mf 30) ((mf 27) 1).toInt 400 from hi_8_6)) (gdV q_1786 q_1788 q_82 q_162 q_1789) hdV_X12_emits ⟨rfl, rfl⟩ ⟨(Nat.le_of_ble_eq_true rfl), (Nat.le_of_ble_eq_true rfl)⟩ ⟨(Nat.le_of_ble_eq_true rfl), (Nat.le_of_ble_eq_true rfl)⟩ 12 rfl rfl rfl rfl hl11.1 rfl (Nat.le_of_ble_eq_true rfl) dX12_settles_35) (fun u_18 H1 locs hp hw20 => ?_)
          obtain ⟨gop_21, garg_22, ncodes_23⟩ := u_18
          generalize H1 = H at hw20 ⊢
          have hw24 : WD D A s.heap (MW cI cJ M mr (upd (upd mi 34 ncodes_23) 37 v_16) (va_up (va_up mf 31 gop_21) 32 garg_22) mg) H locs := hw20
          obtain ⟨hp_25, hp_26, hp_27, hp_28⟩ := hp
          have hp_25 : ncodes_23.toInt = x_6.toInt + 1 := hp_25
          have hp_26 : LW 0 0 gop_21 garg_22 (mf 28) (mf 29) (mf 30) ((mf 27) 0).toInt 400 := hp_26
          have hp_27 : LW 16 400 gop_21 garg_22 (mf 28) (mf 29) (mf 30) ((mf 27) 1).toInt 400 := hp_27
          have hp_28 : EM g_7 g_8 gop_21 garg_22 (800 + (x_6.toInt).toNat) (11 : Int32) (0 : Int32) := hp_28
          refine lv_iload_n (pc := 38) E.1 E.2.1 dX12_settles_38 rfl (lv_at hl11 1 rfl) ?_
          refine lv_bipush (pc := 39) (v := 9) E.1 E.2.1 dX12_settles_39 (by decide +kernel) ?_
          refine lv_icmp_ne (pc := 41) (tgt := 0) E.1 E.2.1 dX12_settles_41 (by decide) (fun _ => ?_) (fun c_29 => absurd c_29 (mneE (a := 11) (b := 9) (by decide +kernel) (by decide +kernel) (by omega)))
          exact ih_9 v_16 ncodes_23 gop_21 garg_22 _ _ _ ⟨(by show 0 ≤ v_16.toInt; omega), (by show v_16.toInt ≤ (mi 37).toInt; omega), (by show ncodes_23.toInt + v_16.toInt = (mi 34).toInt + (mi 37).toInt; omega), (by show 0 ≤ ncodes_23.toInt; omega), (SE_step hi_8_4 (pd_eq ev_14 (by have k_9 : (11 : Int32).toInt = 11 := (by decide +kernel); omega) (by omega)) (by omega) hp_28 (by omega)), (show LW 0 0 gop_21 garg_22 (mf 28) (mf 29) (mf 30) ((mf 27) 0).toInt 400 from hp_26), (show LW 16 400 gop_21 garg_22 (mf 28) (mf 29) (mf 30) ((mf 27) 1).toInt 400 from hp_27)⟩ (by omega) hw24 (lv_sub hl11 [0, 1] rfl)
  exact loop_4 (Int.toNat ((mi 37).toInt) + 1) (mi 37) (mi 34) (mf 31) (mf 32) _ _ _ ⟨h0.1, (by show (mi 37).toInt ≤ (mi 37).toInt; omega), rfl, h1, SE_nil, (show LW 0 0 (mf 31) (mf 32) (mf 28) (mf 29) (mf 30) ((mf 27) 0).toInt 400 from lf_law0), (show LW 16 400 (mf 31) (mf 32) (mf 28) (mf 29) (mf 30) ((mf 27) 1).toInt 400 from lf_law1)⟩ (by omega) hw1 (lv_sub hl3 [0, 1] rfl)

set_option maxHeartbeats 4000000 in
set_option maxRecDepth 100000 in
theorem s_readAny (l : Launch) (D : va_G) (cI cJ : ClassId) (sz M : Nat) (mr : Nat → Nat) (mi : Nat → Int32) (mf : Nat → Nat → Int32) (mg : Nat → Nat → Int64)  (h0 : 0 ≤ (mi 23).toInt) (h1 : (mi 23).toInt ≤ (mi 22).toInt) (h2 : (mi 22).toInt ≤ (mi 21).toInt) (h3 : (mi 21).toInt ≤ 400) (h4 : 0 ≤ (mi 24).toInt) (h5 : (mi 24).toInt ≤ 4) (h6 : (mi 24).toInt ≤ 4 * (mi 22).toInt - 4 * (mi 23).toInt) (h7 : ((mf 26) 153).toInt = 32) (h8 : 0 ≤ (mi 34).toInt) (h9 : (mi 34).toInt ≤ (mi 23).toInt) (h10 : 0 ≤ (mi 35).toInt ∧ (mi 35).toInt ≤ 8) (lf_law0 : LW 0 0 (mf 31) (mf 32) (mf 28) (mf 29) (mf 30) ((mf 27) 0).toInt 400) (lf_law1 : LW 16 400 (mf 31) (mf 32) (mf 28) (mf 29) (mf 30) ((mf 27) 1).toInt 400) : Met l yX12_readAny (Cond.code yX12_readAny cX12_readAny 4 (some .int) :: GW) ({ frames := 8, cells := 0, slots := 0, locals := 189 } : Room) (va_Pc [.ref M] (PW D cI cJ sz (MW cI cJ M mr mi mf mg) xT)) (va_Qi (fun (r : Int32) (u : Int32 × Int32 × Int32 × Int32 × (Nat → Int32) × (Nat → Int32) × Int32 × Int32 × Int32 × (Nat → Int32) × Int32 × Int32) => (0 ≤ u.2.1.toInt) ∧ (u.2.1.toInt ≤ u.1.toInt) ∧ (u.1.toInt ≤ (mi 21).toInt) ∧ (0 ≤ u.2.2.1.toInt) ∧ (u.2.2.1.toInt ≤ 4) ∧ (u.2.2.1.toInt ≤ 4 * u.1.toInt - 4 * u.2.1.toInt) ∧ (0 ≤ u.2.2.2.2.2.2.1.toInt) ∧ (u.2.2.2.2.2.2.1.toInt ≤ u.2.1.toInt) ∧ (0 ≤ u.2.2.2.2.2.2.2.2.2.2.2.toInt) ∧ (u.2.2.2.2.2.2.2.2.2.2.2.toInt ≤ 8) ∧ (LW 0 0 u.2.2.2.2.1 u.2.2.2.2.2.1 (mf 28) (mf 29) (mf 30) ((mf 27) 0).toInt 400) ∧ (LW 16 400 u.2.2.2.2.1 u.2.2.2.2.2.1 (mf 28) (mf 29) (mf 30) ((mf 27) 1).toInt 400) ∧ (r = 0 → TX (mf 31) (mf 32) (800 + ((mi 34).toInt).toNat) u.2.2.2.2.1 u.2.2.2.2.2.1 (800 + (u.2.2.2.2.2.2.1.toInt).toNat)) ∧ ((r = (-1)) ∨ (r = 0 ∧ (mi 23).toInt - (mi 34).toInt ≤ u.2.1.toInt - u.2.2.2.2.2.2.1.toInt ∧ (mi 23).toInt + 1 ≤ u.2.1.toInt))) (fun u => QW D cI cJ (va_A (MW cI cJ M mr mi mf mg) sz) ((fun (u : Int32 × Int32 × Int32 × Int32 × (Nat → Int32) × (Nat → Int32) × Int32 × Int32 × Int32 × (Nat → Int32) × Int32 × Int32) => (MW cI cJ M mr (upd (upd (upd (upd (upd (upd (upd (upd (upd mi 22 u.1) 23 u.2.1) 24 u.2.2.1) 25 u.2.2.2.1) 34 u.2.2.2.2.2.2.1) 38 u.2.2.2.2.2.2.2.1) 39 u.2.2.2.2.2.2.2.2.1) 37 u.2.2.2.2.2.2.2.2.2.2.1) 35 u.2.2.2.2.2.2.2.2.2.2.2) (va_up (va_up (va_up mf 31 u.2.2.2.2.1) 32 u.2.2.2.2.2.1) 36 u.2.2.2.2.2.2.2.2.2.1) mg)) u)) (va_A (MW cI cJ M mr mi mf mg) sz)) 0 0 (va_A (MW cI cJ M mr mi mf mg) sz) := by
  refine mk_met (y := yX12_readAny) (bytes := cX12_readAny) (maxL := 4) (avs := [.ref M]) (WS := (MW cI cJ M mr mi mf mg)) (Qf := fun A => va_Qi (fun (r : Int32) (u : Int32 × Int32 × Int32 × Int32 × (Nat → Int32) × (Nat → Int32) × Int32 × Int32 × Int32 × (Nat → Int32) × Int32 × Int32) => (0 ≤ u.2.1.toInt) ∧ (u.2.1.toInt ≤ u.1.toInt) ∧ (u.1.toInt ≤ (mi 21).toInt) ∧ (0 ≤ u.2.2.1.toInt) ∧ (u.2.2.1.toInt ≤ 4) ∧ (u.2.2.1.toInt ≤ 4 * u.1.toInt - 4 * u.2.1.toInt) ∧ (0 ≤ u.2.2.2.2.2.2.1.toInt) ∧ (u.2.2.2.2.2.2.1.toInt ≤ u.2.1.toInt) ∧ (0 ≤ u.2.2.2.2.2.2.2.2.2.2.2.toInt) ∧ (u.2.2.2.2.2.2.2.2.2.2.2.toInt ≤ 8) ∧ (LW 0 0 u.2.2.2.2.1 u.2.2.2.2.2.1 (mf 28) (mf 29) (mf 30) ((mf 27) 0).toInt 400) ∧ (LW 16 400 u.2.2.2.2.1 u.2.2.2.2.2.1 (mf 28) (mf 29) (mf 30) ((mf 27) 1).toInt 400) ∧ (r = 0 → TX (mf 31) (mf 32) (800 + ((mi 34).toInt).toNat) u.2.2.2.2.1 u.2.2.2.2.2.1 (800 + (u.2.2.2.2.2.2.1.toInt).toNat)) ∧ ((r = (-1)) ∨ (r = 0 ∧ (mi 23).toInt - (mi 34).toInt ≤ u.2.1.toInt - u.2.2.2.2.2.2.1.toInt ∧ (mi 23).toInt + 1 ≤ u.2.1.toInt))) (fun u => QW D cI cJ A ((fun (u : Int32 × Int32 × Int32 × Int32 × (Nat → Int32) × (Nat → Int32) × Int32 × Int32 × Int32 × (Nat → Int32) × Int32 × Int32) => (MW cI cJ M mr (upd (upd (upd (upd (upd (upd (upd (upd (upd mi 22 u.1) 23 u.2.1) 24 u.2.2.1) 25 u.2.2.2.1) 34 u.2.2.2.2.2.2.1) 38 u.2.2.2.2.2.2.2.1) 39 u.2.2.2.2.2.2.2.2.1) 37 u.2.2.2.2.2.2.2.2.2.2.1) 35 u.2.2.2.2.2.2.2.2.2.2.2) (va_up (va_up (va_up mf 31 u.2.2.2.2.1) 32 u.2.2.2.2.2.1) 36 u.2.2.2.2.2.2.2.2.2.1) mg)) u)) A) (by decide) (Nat.le_of_ble_eq_true rfl) ?_
  intro p e s m below meth c A ls E hr hlk hnm hX hw1 hl2
  have hl3 : lv_has ls 4 [(0, .ref M)] := hl2
  refine lv_iconst (pc := 0) (v := 0) E.1 E.2.1 dX12_readAny_0 (by decide +kernel) ?_
  refine lv_istore_n (pc := 1) (lv' := [(1, .int 0), (0, .ref M)]) E.1 E.2.1 dX12_readAny_1 rfl hl3 (by decide) rfl (fun ls hl4 => ?_)
  refine lv_aload_n (pc := 2) E.1 E.2.1 dX12_readAny_2 rfl (lv_at hl4 1 rfl) ?_
  refine lv_iconst (pc := 3) (v := 0) E.1 E.2.1 dX12_readAny_3 (by decide +kernel) ?_
  refine x_put (pc := 4) (T := TX12) (N := 70) (ci := 12) (ws' := (MW cI cJ M mr (upd mi 37 0) mf mg)) E hw1 inX12 tyX12_ok nmX12 0 37 q_1436 rfl rfl (by decide) rfl rfl rfl rfl (Nat.le_of_ble_eq_true rfl) rfl dX12_readAny_4 (fun H locs hw5 => ?_)
  refine lv_iconst (pc := 7) (v := 1) E.1 E.2.1 dX12_readAny_7 (by decide +kernel) ?_
  refine lv_istore_n (pc := 8) (lv' := [(2, .int 1), (1, .int 0), (0, .ref M)]) E.1 E.2.1 dX12_readAny_8 rfl hl4 (by decide) rfl (fun ls hl6 => ?_)
  have loop_7 : ∀ (k : Nat) (x_8 : Int32) (x_9 : Int32) (x_10 : Int32) (x_11 : Int32) (x_12 : Int32) (x_13 : Int32) (x_14 : Int32) (x_15 : Int32) (x_16 : Int32) (x_17 : Int32) (x_18 : Int32) (g_19 : Nat → Int32) (g_20 : Nat → Int32) (g_21 : Nat → Int32) (H : Heap) (locs : List Loc) (ls : Array Slot), (0 ≤ x_11.toInt) ∧ (x_11.toInt ≤ x_10.toInt) ∧ (x_10.toInt ≤ (mi 21).toInt) ∧ (0 ≤ x_12.toInt) ∧ (x_12.toInt ≤ 4) ∧ (x_12.toInt ≤ 4 * x_10.toInt - 4 * x_11.toInt) ∧ (0 ≤ x_14.toInt) ∧ (0 ≤ x_18.toInt) ∧ (x_18.toInt ≤ 8) ∧ (0 ≤ x_17.toInt) ∧ (x_17.toInt ≤ 26) ∧ (0 ≤ x_8.toInt) ∧ (x_8.toInt ≤ x_17.toInt) ∧ (0 ≤ x_9.toInt) ∧ (x_9.toInt ≤ 1) ∧ ((mi 23).toInt - (mi 34).toInt ≤ x_11.toInt - x_14.toInt - x_17.toInt) ∧ ((mi 23).toInt + 1 - x_9.toInt ≤ x_11.toInt) ∧ (RA (mf 31) (mf 32) (800 + ((mi 34).toInt).toNat) g_19 g_20 (800 + (x_14.toInt).toNat) g_21 (x_17.toInt).toNat x_18.toInt x_8.toInt (1 - x_9.toInt).toNat) ∧ (x_9.toInt = 0 → NT 9 g_21 (x_17.toInt).toNat) ∧ (LW 0 0 g_19 g_20 (mf 28) (mf 29) (mf 30) ((mf 27) 0).toInt 400) ∧ (LW 16 400 g_19 g_20 (mf 28) (mf 29) (mf 30) ((mf 27) 1).toInt 400) → 2 * (mi 21).toInt - 2 * x_11.toInt + x_9.toInt < (k : Int) → WD D A s.heap (MW cI cJ M mr (upd (upd (upd (upd (upd (upd (upd (upd (upd mi 22 x_10) 23 x_11) 24 x_12) 25 x_13) 34 x_14) 35 x_18) 37 x_17) 38 x_15) 39 x_16) (va_up (va_up (va_up mf 31 g_19) 32 g_20) 36 g_21) mg) H locs → lv_has ls 4 [(2, .int x_9), (1, .int x_8), (0, .ref M)] → W p l e ({ frames := 8, cells := 0, slots := 0, locals := 189 } : Room) s m ([.ref M] : List Value).toArray below meth c H locs 0 0 (MQ below (va_Qi (fun (r : Int32) (u : Int32 × Int32 × Int32 × Int32 × (Nat → Int32) × (Nat → Int32) × Int32 × Int32 × Int32 × (Nat → Int32) × Int32 × Int32) => (0 ≤ u.2.1.toInt) ∧ (u.2.1.toInt ≤ u.1.toInt) ∧ (u.1.toInt ≤ (mi 21).toInt) ∧ (0 ≤ u.2.2.1.toInt) ∧ (u.2.2.1.toInt ≤ 4) ∧ (u.2.2.1.toInt ≤ 4 * u.1.toInt - 4 * u.2.1.toInt) ∧ (0 ≤ u.2.2.2.2.2.2.1.toInt) ∧ (u.2.2.2.2.2.2.1.toInt ≤ u.2.1.toInt) ∧ (0 ≤ u.2.2.2.2.2.2.2.2.2.2.2.toInt) ∧ (u.2.2.2.2.2.2.2.2.2.2.2.toInt ≤ 8) ∧ (LW 0 0 u.2.2.2.2.1 u.2.2.2.2.2.1 (mf 28) (mf 29) (mf 30) ((mf 27) 0).toInt 400) ∧ (LW 16 400 u.2.2.2.2.1 u.2.2.2.2.2.1 (mf 28) (mf 29) (mf 30) ((mf 27) 1).toInt 400) ∧ (r = 0 → TX (mf 31) (mf 32) (800 + ((mi 34).toInt).toNat) u.2.2.2.2.1 u.2.2.2.2.2.1 (800 + (u.2.2.2.2.2.2.1.toInt).toNat)) ∧ ((r = (-1)) ∨ (r = 0 ∧ (mi 23).toInt - (mi 34).toInt ≤ u.2.1.toInt - u.2.2.2.2.2.2.1.toInt ∧ (mi 23).toInt + 1 ≤ u.2.1.toInt))) (fun u => QW D cI cJ A ((fun (u : Int32 × Int32 × Int32 × Int32 × (Nat → Int32) × (Nat → Int32) × Int32 × Int32 × Int32 × (Nat → Int32) × Int32 × Int32) => (MW cI cJ M mr (upd (upd (upd (upd (upd (upd (upd (upd (upd mi 22 u.1) 23 u.2.1) 24 u.2.2.1) 25 u.2.2.2.1) 34 u.2.2.2.2.2.2.1) 38 u.2.2.2.2.2.2.2.1) 39 u.2.2.2.2.2.2.2.2.1) 37 u.2.2.2.2.2.2.2.2.2.2.1) 35 u.2.2.2.2.2.2.2.2.2.2.2) (va_up (va_up (va_up mf 31 u.2.2.2.2.1) 32 u.2.2.2.2.2.1) 36 u.2.2.2.2.2.2.2.2.2.1) mg)) u)) A) ([.ref M] : List Value).toArray s 0 0 A) (F0 m 9 ls []) := by
    intro k
    induction k with
    | zero =>
      intro x_8 x_9 x_10 x_11 x_12 x_13 x_14 x_15 x_16 x_17 x_18 g_19 g_20 g_21 _ _ _ hinv hm
      obtain ⟨hi_21_0, hi_21_1, hi_21_2, hi_21_3, hi_21_4, hi_21_5, hi_21_6, hi_21_7, hi_21_8, hi_21_9, hi_21_10, hi_21_11, hi_21_12, hi_21_13, hi_21_14, hi_21_15, hi_21_16, hi_21_17, hi_21_18, hi_21_19, hi_21_20⟩ := hinv
      exact absurd hm (by omega)
    | succ k ih_22 =>
      intro x_8 x_9 x_10 x_11 x_12 x_13 x_14 x_15 x_16 x_17 x_18 g_19 g_20 g_21 H locs ls hinv hm hw23 hl24
      obtain ⟨hi_21_0, hi_21_1, hi_21_2, hi_21_3, hi_21_4, hi_21_5, hi_21_6, hi_21_7, hi_21_8, hi_21_9, hi_21_10, hi_21_11, hi_21_12, hi_21_13, hi_21_14, hi_21_15, hi_21_16, hi_21_17, hi_21_18, hi_21_19, hi_21_20⟩ := hinv
      refine lv_iload_n (pc := 9) E.1 E.2.1 dX12_readAny_9 rfl (lv_at hl24 0 rfl) ?_
      refine lv_if_eq (pc := 10) (tgt := 108) E.1 E.2.1 dX12_readAny_10 (by decide) (fun c_25 => ?_) (fun c_25 => ?_)
      · skip
        have hc_25 := eqE (a := x_9.toInt) (b := 0) rfl (by decide +kernel) c_25
        have hra_26 : RA (mf 31) (mf 32) (800 + ((mi 34).toInt).toNat) g_19 g_20 (800 + (x_14.toInt).toNat) g_21 (x_17.toInt).toNat x_18.toInt x_8.toInt 1 := RA_pn hi_21_17 rfl (by omega) rfl
        have h9_27 := hi_21_18 (by omega)
        refine lv_aload_n (pc := 108) E.1 E.2.1 dX12_readAny_108 rfl (lv_at hl24 2 rfl) ?_
        refine lv_iconst (pc := 109) (v := 4) E.1 E.2.1 dX12_readAny_109 (by decide +kernel) ?_
        refine cm_i (pc := 110) hw23 (rn_M (As := [.int 4]) (rest := []) E hw23 (s_isWord2 l D cI cJ _ M mr (upd (upd (upd (upd (upd (upd (upd (upd (upd mi 22 x_10) 23 x_11) 24 x_12) 25 x_13) 34 x_14) 35 x_18) 37 x_17) 38 x_15) 39 x_16) (va_up (va_up (va_up mf 31 g_19) 32 g_20) 36 g_21) mg 4) (gdV q_1694 q_1696 q_59 q_162 q_1697) hdV_X12_isWord ⟨rfl, rfl⟩ ⟨(Nat.le_of_ble_eq_true rfl), (Nat.le_of_ble_eq_true rfl)⟩ ⟨(Nat.le_of_ble_eq_true rfl), (Nat.le_of_ble_eq_true rfl)⟩ 12 rfl rfl rfl rfl hl24.1 rfl (Nat.le_of_ble_eq_true rfl) dX12_readAny_110) (fun r_29 u_28 H1 locs hp hw30 => ?_)
        generalize H1 = H at hw30 ⊢
        have hw31 : WD D A s.heap (MW cI cJ M mr (upd (upd (upd (upd (upd (upd (upd (upd (upd mi 22 x_10) 23 x_11) 24 x_12) 25 x_13) 34 x_14) 35 x_18) 37 x_17) 38 x_15) 39 x_16) (va_up (va_up (va_up mf 31 g_19) 32 g_20) 36 g_21) mg) H locs := hw30
        have hp_32 := hp
        rcases hp_32 with ⟨rfl, ha_33, ha_34⟩ | rfl
        · skip
          have ha_33 : x_12.toInt = 2 := ha_33
          have ha_34 : x_13.toInt = (4 : Int32).toInt := ha_34
          rw [show (4 : Int32).toInt = 4 from by decide +kernel] at ha_34
          refine lv_if_eq (pc := 113) (tgt := 137) E.1 E.2.1 dX12_readAny_113 (by decide) (fun c_35 => absurd c_35 (mneE (a := 1) (b := 0) (by decide +kernel) (by decide +kernel) (by omega))) (fun _ => ?_)
          refine lv_aload_n (pc := 116) E.1 E.2.1 dX12_readAny_116 rfl (lv_at hl24 2 rfl) ?_
          refine lv_bipush (pc := 117) (v := 10) E.1 E.2.1 dX12_readAny_117 (by decide +kernel) ?_
          refine cm_v (pc := 119) hw31 (rn_M (As := [.int 10]) (rest := []) E hw31 (s_settles10 l D cI cJ _ M mr (upd (upd (upd (upd (upd (upd (upd (upd (upd mi 22 x_10) 23 x_11) 24 x_12) 25 x_13) 34 x_14) 35 x_18) 37 x_17) 38 x_15) 39 x_16) (va_up (va_up (va_up mf 31 g_19) 32 g_20) 36 g_21) mg (by show 0 ≤ x_17.toInt ∧ x_17.toInt ≤ 40; omega) hi_21_6 (by show x_14.toInt + x_17.toInt ≤ 400; omega) ⟨hi_21_7, hi_21_8⟩ (show LW 0 0 g_19 g_20 (mf 28) (mf 29) (mf 30) ((mf 27) 0).toInt 400 from hi_21_19) (show LW 16 400 g_19 g_20 (mf 28) (mf 29) (mf 30) ((mf 27) 1).toInt 400 from hi_21_20)) (gdV q_1802 q_1804 q_86 q_162 q_1805) hdV_X12_settles ⟨rfl, rfl⟩ ⟨(Nat.le_of_ble_eq_true rfl), (Nat.le_of_ble_eq_true rfl)⟩ ⟨(Nat.le_of_ble_eq_true rfl), (Nat.le_of_ble_eq_true rfl)⟩ 12 rfl rfl rfl rfl hl24.1 rfl (Nat.le_of_ble_eq_true rfl) dX12_readAny_119) (fun u_36 H1 locs hp hw38 => ?_)
          obtain ⟨npendings_39, gop_40, garg_41, ncodes_42⟩ := u_36
          generalize H1 = H at hw38 ⊢
          have hw43 : WD D A s.heap (MW cI cJ M mr (upd (upd (upd (upd (upd (upd (upd (upd (upd mi 22 x_10) 23 x_11) 24 x_12) 25 x_13) 34 ncodes_42) 35 x_18) 37 npendings_39) 38 x_15) 39 x_16) (va_up (va_up (va_up mf 31 gop_40) 32 garg_41) 36 g_21) mg) H locs := hw38
          obtain ⟨hp_44, hp_45, hp_46, hp_47, hp_48, hp_49, hp_50, hp_51⟩ := hp
          have hp_44 : 0 ≤ npendings_39.toInt := hp_44
          have hp_45 : npendings_39.toInt ≤ x_17.toInt := hp_45
          have hp_46 : ncodes_42.toInt + npendings_39.toInt = x_14.toInt + x_17.toInt := hp_46
          have hp_47 : 0 ≤ ncodes_42.toInt := hp_47
          have hp_48 : LW 0 0 gop_40 garg_41 (mf 28) (mf 29) (mf 30) ((mf 27) 0).toInt 400 := hp_48
          have hp_49 : LW 16 400 gop_40 garg_41 (mf 28) (mf 29) (mf 30) ((mf 27) 1).toInt 400 := hp_49
          have hp_50 : SE (10 : Int32) g_21 (x_17.toInt).toNat g_19 g_20 (800 + (x_14.toInt).toNat) (npendings_39.toInt).toNat gop_40 garg_41 (800 + (ncodes_42.toInt).toNat) := hp_50
          have hp_51 : NT (10 : Int32) g_21 (npendings_39.toInt).toNat := hp_51
          refine lv_aload_n (pc := 122) E.1 E.2.1 dX12_readAny_122 rfl (lv_at hl24 2 rfl) ?_
          refine lv_bipush (pc := 123) (v := 10) E.1 E.2.1 dX12_readAny_123 (by decide +kernel) ?_
          refine cm_v (pc := 125) hw43 (rn_M (As := [.int 10]) (rest := []) E hw43 (s_waits2 l D cI cJ _ M mr (upd (upd (upd (upd (upd (upd (upd (upd (upd mi 22 x_10) 23 x_11) 24 x_12) 25 x_13) 34 ncodes_42) 35 x_18) 37 npendings_39) 38 x_15) 39 x_16) (va_up (va_up (va_up mf 31 gop_40) 32 garg_41) 36 g_21) mg 10 (by show 0 ≤ npendings_39.toInt ∧ npendings_39.toInt ≤ 39; omega)) (gdV q_1794 q_1796 q_84 q_162 q_1797) hdV_X12_waits ⟨rfl, rfl⟩ ⟨(Nat.le_of_ble_eq_true rfl), (Nat.le_of_ble_eq_true rfl)⟩ ⟨(Nat.le_of_ble_eq_true rfl), (Nat.le_of_ble_eq_true rfl)⟩ 12 rfl rfl rfl rfl hl24.1 rfl (Nat.le_of_ble_eq_true rfl) dX12_readAny_125) (fun u_52 H1 locs hp hw54 => ?_)
          obtain ⟨gpending_55, npendings_56⟩ := u_52
          generalize H1 = H at hw54 ⊢
          have hw57 : WD D A s.heap (MW cI cJ M mr (upd (upd (upd (upd (upd (upd (upd (upd (upd mi 22 x_10) 23 x_11) 24 x_12) 25 x_13) 34 ncodes_42) 35 x_18) 37 npendings_56) 38 x_15) 39 x_16) (va_up (va_up (va_up mf 31 gop_40) 32 garg_41) 36 gpending_55) mg) H locs := hw54
          obtain ⟨hp_58, hp_59⟩ := hp
          have hp_58 : npendings_56.toInt = npendings_39.toInt + 1 := hp_58
          have hp_59 : gpending_55 ((npendings_39.toInt).toNat) = (10 : Int32) ∧ ∀ j : Nat, j < (npendings_39.toInt).toNat → gpending_55 j = g_21 j := hp_59
          refine lv_aload_n (pc := 128) E.1 E.2.1 dX12_readAny_128 rfl (lv_at hl24 2 rfl) ?_
          refine cm_v (pc := 129) hw57 (rn_M (As := []) (rest := []) E hw57 (s_reads l D cI cJ _ M mr (upd (upd (upd (upd (upd (upd (upd (upd (upd mi 22 x_10) 23 x_11) 24 x_12) 25 x_13) 34 ncodes_42) 35 x_18) 37 npendings_56) 38 x_15) 39 x_16) (va_up (va_up (va_up mf 31 gop_40) 32 garg_41) 36 gpending_55) mg (by show 0 ≤ x_10.toInt; omega) hi_21_2 h3 h7) (gdV q_1666 q_1668 q_52 q_162 q_1669) hdV_X12_reads ⟨rfl, rfl⟩ ⟨(Nat.le_of_ble_eq_true rfl), (Nat.le_of_ble_eq_true rfl)⟩ ⟨(Nat.le_of_ble_eq_true rfl), (Nat.le_of_ble_eq_true rfl)⟩ 12 rfl rfl rfl rfl hl24.1 rfl (Nat.le_of_ble_eq_true rfl) dX12_readAny_129) (fun u_60 H1 locs hp hw62 => ?_)
          obtain ⟨nspot_63, nfrom_64, ntoken_65, nvalue_66⟩ := u_60
          generalize H1 = H at hw62 ⊢
          have hw67 : WD D A s.heap (MW cI cJ M mr (upd (upd (upd (upd (upd (upd (upd (upd (upd mi 22 nspot_63) 23 nfrom_64) 24 ntoken_65) 25 nvalue_66) 34 ncodes_42) 35 x_18) 37 npendings_56) 38 x_15) 39 x_16) (va_up (va_up (va_up mf 31 gop_40) 32 garg_41) 36 gpending_55) mg) H locs := hw62
          obtain ⟨hp_68, hp_69, hp_70, hp_71, hp_72, hp_73, hp_74⟩ := hp
          have hp_68 : 0 ≤ nfrom_64.toInt := hp_68
          have hp_69 : nfrom_64.toInt ≤ nspot_63.toInt := hp_69
          have hp_70 : nspot_63.toInt ≤ (mi 21).toInt := hp_70
          have hp_71 : 0 ≤ ntoken_65.toInt := hp_71
          have hp_72 : ntoken_65.toInt ≤ 4 := hp_72
          have hp_73 : ntoken_65.toInt ≤ 4 * nspot_63.toInt - 4 * nfrom_64.toInt := hp_73
          have hp_74 : x_10.toInt ≤ nfrom_64.toInt := hp_74
          refine lv_iconst (pc := 132) (v := 1) E.1 E.2.1 dX12_readAny_132 (by decide +kernel) ?_
          refine lv_istore_n (pc := 133) (lv' := [(2, .int 1), (1, .int x_8), (0, .ref M)]) E.1 E.2.1 dX12_readAny_133 rfl hl24 (by decide) rfl (fun ls hl75 => ?_)
          refine lv_goto (pc := 134) (tgt := 9) E.1 E.2.1 dX12_readAny_134 (by decide) ?_
          have ra_77 := RA_bin k10 k10b hra_26 hp_50
          have n9_78 := NT_keep9a hra_26.1 h9_27 hp_50.1 hp_50.2.2.1
          have hra_76 : RA (mf 31) (mf 32) (800 + ((mi 34).toInt).toNat) gop_40 garg_41 (800 + (ncodes_42.toInt).toNat) gpending_55 (npendings_56.toInt).toNat x_18.toInt x_8.toInt 0 := RA_pn (RA_and ra_77 n9_78 hp_51 hp_59.1 hp_59.2) (by omega) rfl rfl
          have hb_79 := RA_br hra_76
          have hb_79o : 0 ≤ x_18.toInt := hb_79.2.2
          have hb_79b : 0 ≤ x_8.toInt := hb_79.1
          have hb_79c : x_8.toInt ≤ npendings_56.toInt := by have q := hb_79.2.1; omega
          have hra_76p : npendings_56.toInt ≤ 26 := by have q := RA_pend hra_76 (by omega); omega
          exact ih_22 x_8 1 nspot_63 nfrom_64 ntoken_65 nvalue_66 ncodes_42 x_15 x_16 npendings_56 x_18 gop_40 garg_41 gpending_55 _ _ _ ⟨hp_68, hp_69, hp_70, hp_71, hp_72, hp_73, hp_47, hi_21_7, hi_21_8, (by show 0 ≤ npendings_56.toInt; omega), (by show npendings_56.toInt ≤ 26; omega), hi_21_11, (by show x_8.toInt ≤ npendings_56.toInt; omega), (by show 0 ≤ (1 : Int32).toInt; have k_0 : (1 : Int32).toInt = 1 := (by decide +kernel); omega), (by show (1 : Int32).toInt ≤ 1; have k_0 : (1 : Int32).toInt = 1 := (by decide +kernel); omega), (by show (mi 23).toInt - (mi 34).toInt ≤ nfrom_64.toInt - ncodes_42.toInt - npendings_56.toInt; omega), (by show (mi 23).toInt + 1 - (1 : Int32).toInt ≤ nfrom_64.toInt; have k_0 : (1 : Int32).toInt = 1 := (by decide +kernel); omega), (RA_pn hra_76 rfl (by first | rfl | decide +kernel | omega) rfl), (fun h => absurd h (by decide +kernel)), (show LW 0 0 gop_40 garg_41 (mf 28) (mf 29) (mf 30) ((mf 27) 0).toInt 400 from hp_48), (show LW 16 400 gop_40 garg_41 (mf 28) (mf 29) (mf 30) ((mf 27) 1).toInt 400 from hp_49)⟩ (by have k_0 : (1 : Int32).toInt = 1 := (by decide +kernel); omega) hw67 (lv_sub hl75 [0, 1, 2] rfl)
        · skip
          refine lv_if_eq (pc := 113) (tgt := 137) E.1 E.2.1 dX12_readAny_113 (by decide) (fun _ => ?_) (fun c_80 => absurd (meqE (a := 0) (b := 0) (by decide +kernel) (by decide +kernel) (by omega)) c_80)
          refine lv_aload_n (pc := 137) E.1 E.2.1 dX12_readAny_137 rfl (lv_at hl24 2 rfl) ?_
          refine lv_iconst (pc := 138) (v := 3) E.1 E.2.1 dX12_readAny_138 (by decide +kernel) ?_
          refine cm_i (pc := 139) hw31 (rn_M (As := [.int 3]) (rest := []) E hw31 (s_isWord2 l D cI cJ _ M mr (upd (upd (upd (upd (upd (upd (upd (upd (upd mi 22 x_10) 23 x_11) 24 x_12) 25 x_13) 34 x_14) 35 x_18) 37 x_17) 38 x_15) 39 x_16) (va_up (va_up (va_up mf 31 g_19) 32 g_20) 36 g_21) mg 3) (gdV q_1694 q_1696 q_59 q_162 q_1697) hdV_X12_isWord ⟨rfl, rfl⟩ ⟨(Nat.le_of_ble_eq_true rfl), (Nat.le_of_ble_eq_true rfl)⟩ ⟨(Nat.le_of_ble_eq_true rfl), (Nat.le_of_ble_eq_true rfl)⟩ 12 rfl rfl rfl rfl hl24.1 rfl (Nat.le_of_ble_eq_true rfl) dX12_readAny_139) (fun r_82 u_81 H1 locs hp hw83 => ?_)
          generalize H1 = H at hw83 ⊢
          have hw84 : WD D A s.heap (MW cI cJ M mr (upd (upd (upd (upd (upd (upd (upd (upd (upd mi 22 x_10) 23 x_11) 24 x_12) 25 x_13) 34 x_14) 35 x_18) 37 x_17) 38 x_15) 39 x_16) (va_up (va_up (va_up mf 31 g_19) 32 g_20) 36 g_21) mg) H locs := hw83
          have hp_85 := hp
          rcases hp_85 with ⟨rfl, ha_86, ha_87⟩ | rfl
          · skip
            have ha_86 : x_12.toInt = 2 := ha_86
            have ha_87 : x_13.toInt = (3 : Int32).toInt := ha_87
            rw [show (3 : Int32).toInt = 3 from by decide +kernel] at ha_87
            refine lv_if_eq (pc := 142) (tgt := 172) E.1 E.2.1 dX12_readAny_142 (by decide) (fun c_88 => absurd c_88 (mneE (a := 1) (b := 0) (by decide +kernel) (by decide +kernel) (by omega))) (fun _ => ?_)
            refine lv_aload_n (pc := 145) E.1 E.2.1 dX12_readAny_145 rfl (lv_at hl24 2 rfl) ?_
            refine lv_bipush (pc := 146) (v := 10) E.1 E.2.1 dX12_readAny_146 (by decide +kernel) ?_
            refine cm_v (pc := 148) hw84 (rn_M (As := [.int 10]) (rest := []) E hw84 (s_settles10 l D cI cJ _ M mr (upd (upd (upd (upd (upd (upd (upd (upd (upd mi 22 x_10) 23 x_11) 24 x_12) 25 x_13) 34 x_14) 35 x_18) 37 x_17) 38 x_15) 39 x_16) (va_up (va_up (va_up mf 31 g_19) 32 g_20) 36 g_21) mg (by show 0 ≤ x_17.toInt ∧ x_17.toInt ≤ 40; omega) hi_21_6 (by show x_14.toInt + x_17.toInt ≤ 400; omega) ⟨hi_21_7, hi_21_8⟩ (show LW 0 0 g_19 g_20 (mf 28) (mf 29) (mf 30) ((mf 27) 0).toInt 400 from hi_21_19) (show LW 16 400 g_19 g_20 (mf 28) (mf 29) (mf 30) ((mf 27) 1).toInt 400 from hi_21_20)) (gdV q_1802 q_1804 q_86 q_162 q_1805) hdV_X12_settles ⟨rfl, rfl⟩ ⟨(Nat.le_of_ble_eq_true rfl), (Nat.le_of_ble_eq_true rfl)⟩ ⟨(Nat.le_of_ble_eq_true rfl), (Nat.le_of_ble_eq_true rfl)⟩ 12 rfl rfl rfl rfl hl24.1 rfl (Nat.le_of_ble_eq_true rfl) dX12_readAny_148) (fun u_89 H1 locs hp hw91 => ?_)
            obtain ⟨npendings_92, gop_93, garg_94, ncodes_95⟩ := u_89
            generalize H1 = H at hw91 ⊢
            have hw96 : WD D A s.heap (MW cI cJ M mr (upd (upd (upd (upd (upd (upd (upd (upd (upd mi 22 x_10) 23 x_11) 24 x_12) 25 x_13) 34 ncodes_95) 35 x_18) 37 npendings_92) 38 x_15) 39 x_16) (va_up (va_up (va_up mf 31 gop_93) 32 garg_94) 36 g_21) mg) H locs := hw91
            obtain ⟨hp_97, hp_98, hp_99, hp_100, hp_101, hp_102, hp_103, hp_104⟩ := hp
            have hp_97 : 0 ≤ npendings_92.toInt := hp_97
            have hp_98 : npendings_92.toInt ≤ x_17.toInt := hp_98
            have hp_99 : ncodes_95.toInt + npendings_92.toInt = x_14.toInt + x_17.toInt := hp_99
            have hp_100 : 0 ≤ ncodes_95.toInt := hp_100
            have hp_101 : LW 0 0 gop_93 garg_94 (mf 28) (mf 29) (mf 30) ((mf 27) 0).toInt 400 := hp_101
            have hp_102 : LW 16 400 gop_93 garg_94 (mf 28) (mf 29) (mf 30) ((mf 27) 1).toInt 400 := hp_102
            have hp_103 : SE (10 : Int32) g_21 (x_17.toInt).toNat g_19 g_20 (800 + (x_14.toInt).toNat) (npendings_92.toInt).toNat gop_93 garg_94 (800 + (ncodes_95.toInt).toNat) := hp_103
            have hp_104 : NT (10 : Int32) g_21 (npendings_92.toInt).toNat := hp_104
            refine lv_aload_n (pc := 151) E.1 E.2.1 dX12_readAny_151 rfl (lv_at hl24 2 rfl) ?_
            refine lv_bipush (pc := 152) (v := 11) E.1 E.2.1 dX12_readAny_152 (by decide +kernel) ?_
            refine cm_v (pc := 154) hw96 (rn_M (As := [.int 11]) (rest := []) E hw96 (s_settles11 l D cI cJ _ M mr (upd (upd (upd (upd (upd (upd (upd (upd (upd mi 22 x_10) 23 x_11) 24 x_12) 25 x_13) 34 ncodes_95) 35 x_18) 37 npendings_92) 38 x_15) 39 x_16) (va_up (va_up (va_up mf 31 gop_93) 32 garg_94) 36 g_21) mg (by show 0 ≤ npendings_92.toInt ∧ npendings_92.toInt ≤ 40; omega) hp_100 (by show ncodes_95.toInt + npendings_92.toInt ≤ 400; omega) ⟨hi_21_7, hi_21_8⟩ (show LW 0 0 gop_93 garg_94 (mf 28) (mf 29) (mf 30) ((mf 27) 0).toInt 400 from hp_101) (show LW 16 400 gop_93 garg_94 (mf 28) (mf 29) (mf 30) ((mf 27) 1).toInt 400 from hp_102)) (gdV q_1802 q_1804 q_86 q_162 q_1805) hdV_X12_settles ⟨rfl, rfl⟩ ⟨(Nat.le_of_ble_eq_true rfl), (Nat.le_of_ble_eq_true rfl)⟩ ⟨(Nat.le_of_ble_eq_true rfl), (Nat.le_of_ble_eq_true rfl)⟩ 12 rfl rfl rfl rfl hl24.1 rfl (Nat.le_of_ble_eq_true rfl) dX12_readAny_154) (fun u_105 H1 locs hp hw107 => ?_)
            obtain ⟨npendings_108, gop_109, garg_110, ncodes_111⟩ := u_105
            generalize H1 = H at hw107 ⊢
            have hw112 : WD D A s.heap (MW cI cJ M mr (upd (upd (upd (upd (upd (upd (upd (upd (upd mi 22 x_10) 23 x_11) 24 x_12) 25 x_13) 34 ncodes_111) 35 x_18) 37 npendings_108) 38 x_15) 39 x_16) (va_up (va_up (va_up mf 31 gop_109) 32 garg_110) 36 g_21) mg) H locs := hw107
            obtain ⟨hp_113, hp_114, hp_115, hp_116, hp_117, hp_118, hp_119, hp_120⟩ := hp
            have hp_113 : 0 ≤ npendings_108.toInt := hp_113
            have hp_114 : npendings_108.toInt ≤ npendings_92.toInt := hp_114
            have hp_115 : ncodes_111.toInt + npendings_108.toInt = ncodes_95.toInt + npendings_92.toInt := hp_115
            have hp_116 : 0 ≤ ncodes_111.toInt := hp_116
            have hp_117 : LW 0 0 gop_109 garg_110 (mf 28) (mf 29) (mf 30) ((mf 27) 0).toInt 400 := hp_117
            have hp_118 : LW 16 400 gop_109 garg_110 (mf 28) (mf 29) (mf 30) ((mf 27) 1).toInt 400 := hp_118
            have hp_119 : SE (11 : Int32) g_21 (npendings_92.toInt).toNat gop_93 garg_94 (800 + (ncodes_95.toInt).toNat) (npendings_108.toInt).toNat gop_109 garg_110 (800 + (ncodes_111.toInt).toNat) := hp_119
            have hp_120 : NT (11 : Int32) g_21 (npendings_108.toInt).toNat := hp_120
            refine lv_aload_n (pc := 157) E.1 E.2.1 dX12_readAny_157 rfl (lv_at hl24 2 rfl) ?_
            refine lv_bipush (pc := 158) (v := 11) E.1 E.2.1 dX12_readAny_158 (by decide +kernel) ?_
            refine cm_v (pc := 160) hw112 (rn_M (As := [.int 11]) (rest := []) E hw112 (s_waits2 l D cI cJ _ M mr (upd (upd (upd (upd (upd (upd (upd (upd (upd mi 22 x_10) 23 x_11) 24 x_12) 25 x_13) 34 ncodes_111) 35 x_18) 37 npendings_108) 38 x_15) 39 x_16) (va_up (va_up (va_up mf 31 gop_109) 32 garg_110) 36 g_21) mg 11 (by show 0 ≤ npendings_108.toInt ∧ npendings_108.toInt ≤ 39; omega)) (gdV q_1794 q_1796 q_84 q_162 q_1797) hdV_X12_waits ⟨rfl, rfl⟩ ⟨(Nat.le_of_ble_eq_true rfl), (Nat.le_of_ble_eq_true rfl)⟩ ⟨(Nat.le_of_ble_eq_true rfl), (Nat.le_of_ble_eq_true rfl)⟩ 12 rfl rfl rfl rfl hl24.1 rfl (Nat.le_of_ble_eq_true rfl) dX12_readAny_160) (fun u_121 H1 locs hp hw123 => ?_)
            obtain ⟨gpending_124, npendings_125⟩ := u_121
            generalize H1 = H at hw123 ⊢
            have hw126 : WD D A s.heap (MW cI cJ M mr (upd (upd (upd (upd (upd (upd (upd (upd (upd mi 22 x_10) 23 x_11) 24 x_12) 25 x_13) 34 ncodes_111) 35 x_18) 37 npendings_125) 38 x_15) 39 x_16) (va_up (va_up (va_up mf 31 gop_109) 32 garg_110) 36 gpending_124) mg) H locs := hw123
            obtain ⟨hp_127, hp_128⟩ := hp
            have hp_127 : npendings_125.toInt = npendings_108.toInt + 1 := hp_127
            have hp_128 : gpending_124 ((npendings_108.toInt).toNat) = (11 : Int32) ∧ ∀ j : Nat, j < (npendings_108.toInt).toNat → gpending_124 j = g_21 j := hp_128
            refine lv_aload_n (pc := 163) E.1 E.2.1 dX12_readAny_163 rfl (lv_at hl24 2 rfl) ?_
            refine cm_v (pc := 164) hw126 (rn_M (As := []) (rest := []) E hw126 (s_reads l D cI cJ _ M mr (upd (upd (upd (upd (upd (upd (upd (upd (upd mi 22 x_10) 23 x_11) 24 x_12) 25 x_13) 34 ncodes_111) 35 x_18) 37 npendings_125) 38 x_15) 39 x_16) (va_up (va_up (va_up mf 31 gop_109) 32 garg_110) 36 gpending_124) mg (by show 0 ≤ x_10.toInt; omega) hi_21_2 h3 h7) (gdV q_1666 q_1668 q_52 q_162 q_1669) hdV_X12_reads ⟨rfl, rfl⟩ ⟨(Nat.le_of_ble_eq_true rfl), (Nat.le_of_ble_eq_true rfl)⟩ ⟨(Nat.le_of_ble_eq_true rfl), (Nat.le_of_ble_eq_true rfl)⟩ 12 rfl rfl rfl rfl hl24.1 rfl (Nat.le_of_ble_eq_true rfl) dX12_readAny_164) (fun u_129 H1 locs hp hw131 => ?_)
            obtain ⟨nspot_132, nfrom_133, ntoken_134, nvalue_135⟩ := u_129
            generalize H1 = H at hw131 ⊢
            have hw136 : WD D A s.heap (MW cI cJ M mr (upd (upd (upd (upd (upd (upd (upd (upd (upd mi 22 nspot_132) 23 nfrom_133) 24 ntoken_134) 25 nvalue_135) 34 ncodes_111) 35 x_18) 37 npendings_125) 38 x_15) 39 x_16) (va_up (va_up (va_up mf 31 gop_109) 32 garg_110) 36 gpending_124) mg) H locs := hw131
            obtain ⟨hp_137, hp_138, hp_139, hp_140, hp_141, hp_142, hp_143⟩ := hp
            have hp_137 : 0 ≤ nfrom_133.toInt := hp_137
            have hp_138 : nfrom_133.toInt ≤ nspot_132.toInt := hp_138
            have hp_139 : nspot_132.toInt ≤ (mi 21).toInt := hp_139
            have hp_140 : 0 ≤ ntoken_134.toInt := hp_140
            have hp_141 : ntoken_134.toInt ≤ 4 := hp_141
            have hp_142 : ntoken_134.toInt ≤ 4 * nspot_132.toInt - 4 * nfrom_133.toInt := hp_142
            have hp_143 : x_10.toInt ≤ nfrom_133.toInt := hp_143
            refine lv_iconst (pc := 167) (v := 1) E.1 E.2.1 dX12_readAny_167 (by decide +kernel) ?_
            refine lv_istore_n (pc := 168) (lv' := [(2, .int 1), (1, .int x_8), (0, .ref M)]) E.1 E.2.1 dX12_readAny_168 rfl hl24 (by decide) rfl (fun ls hl144 => ?_)
            refine lv_goto (pc := 169) (tgt := 9) E.1 E.2.1 dX12_readAny_169 (by decide) ?_
            have ra_146 := RA_bin k10 k10b hra_26 hp_103
            have n9_147 := NT_keep9a hra_26.1 h9_27 hp_103.1 hp_103.2.2.1
            have ra_148 := RA_bin k11 k11b ra_146 hp_119
            have n9_149 := NT_keepo (Or.inl rfl) ra_146.1 n9_147 hp_119.1 hp_119.2.2.1
            have nt_150 := NT_keepo (Or.inr rfl) ra_146.1 hp_104 hp_119.1 hp_119.2.2.1
            have hra_145 : RA (mf 31) (mf 32) (800 + ((mi 34).toInt).toNat) gop_109 garg_110 (800 + (ncodes_111.toInt).toNat) gpending_124 (npendings_125.toInt).toNat x_18.toInt x_8.toInt 0 := RA_pn (RA_or ra_148 n9_149 nt_150 hp_120 hp_128.1 hp_128.2) (by omega) rfl rfl
            have hb_151 := RA_br hra_145
            have hb_151o : 0 ≤ x_18.toInt := hb_151.2.2
            have hb_151b : 0 ≤ x_8.toInt := hb_151.1
            have hb_151c : x_8.toInt ≤ npendings_125.toInt := by have q := hb_151.2.1; omega
            have hra_145p : npendings_125.toInt ≤ 26 := by have q := RA_pend hra_145 (by omega); omega
            exact ih_22 x_8 1 nspot_132 nfrom_133 ntoken_134 nvalue_135 ncodes_111 x_15 x_16 npendings_125 x_18 gop_109 garg_110 gpending_124 _ _ _ ⟨hp_137, hp_138, hp_139, hp_140, hp_141, hp_142, hp_116, hi_21_7, hi_21_8, (by show 0 ≤ npendings_125.toInt; omega), (by show npendings_125.toInt ≤ 26; omega), hi_21_11, (by show x_8.toInt ≤ npendings_125.toInt; omega), (by show 0 ≤ (1 : Int32).toInt; have k_0 : (1 : Int32).toInt = 1 := (by decide +kernel); omega), (by show (1 : Int32).toInt ≤ 1; have k_0 : (1 : Int32).toInt = 1 := (by decide +kernel); omega), (by show (mi 23).toInt - (mi 34).toInt ≤ nfrom_133.toInt - ncodes_111.toInt - npendings_125.toInt; omega), (by show (mi 23).toInt + 1 - (1 : Int32).toInt ≤ nfrom_133.toInt; have k_0 : (1 : Int32).toInt = 1 := (by decide +kernel); omega), (RA_pn hra_145 rfl (by first | rfl | decide +kernel | omega) rfl), (fun h => absurd h (by decide +kernel)), (show LW 0 0 gop_109 garg_110 (mf 28) (mf 29) (mf 30) ((mf 27) 0).toInt 400 from hp_117), (show LW 16 400 gop_109 garg_110 (mf 28) (mf 29) (mf 30) ((mf 27) 1).toInt 400 from hp_118)⟩ (by have k_0 : (1 : Int32).toInt = 1 := (by decide +kernel); omega) hw136 (lv_sub hl144 [0, 1, 2] rfl)
          · skip
            refine lv_if_eq (pc := 142) (tgt := 172) E.1 E.2.1 dX12_readAny_142 (by decide) (fun _ => ?_) (fun c_152 => absurd (meqE (a := 0) (b := 0) (by decide +kernel) (by decide +kernel) (by omega)) c_152)
            refine lv_aload_n (pc := 172) E.1 E.2.1 dX12_readAny_172 rfl (lv_at hl24 2 rfl) ?_
            refine lv_bipush (pc := 173) (v := 10) E.1 E.2.1 dX12_readAny_173 (by decide +kernel) ?_
            refine cm_v (pc := 175) hw84 (rn_M (As := [.int 10]) (rest := []) E hw84 (s_settles10 l D cI cJ _ M mr (upd (upd (upd (upd (upd (upd (upd (upd (upd mi 22 x_10) 23 x_11) 24 x_12) 25 x_13) 34 x_14) 35 x_18) 37 x_17) 38 x_15) 39 x_16) (va_up (va_up (va_up mf 31 g_19) 32 g_20) 36 g_21) mg (by show 0 ≤ x_17.toInt ∧ x_17.toInt ≤ 40; omega) hi_21_6 (by show x_14.toInt + x_17.toInt ≤ 400; omega) ⟨hi_21_7, hi_21_8⟩ (show LW 0 0 g_19 g_20 (mf 28) (mf 29) (mf 30) ((mf 27) 0).toInt 400 from hi_21_19) (show LW 16 400 g_19 g_20 (mf 28) (mf 29) (mf 30) ((mf 27) 1).toInt 400 from hi_21_20)) (gdV q_1802 q_1804 q_86 q_162 q_1805) hdV_X12_settles ⟨rfl, rfl⟩ ⟨(Nat.le_of_ble_eq_true rfl), (Nat.le_of_ble_eq_true rfl)⟩ ⟨(Nat.le_of_ble_eq_true rfl), (Nat.le_of_ble_eq_true rfl)⟩ 12 rfl rfl rfl rfl hl24.1 rfl (Nat.le_of_ble_eq_true rfl) dX12_readAny_175) (fun u_153 H1 locs hp hw155 => ?_)
            obtain ⟨npendings_156, gop_157, garg_158, ncodes_159⟩ := u_153
            generalize H1 = H at hw155 ⊢
            have hw160 : WD D A s.heap (MW cI cJ M mr (upd (upd (upd (upd (upd (upd (upd (upd (upd mi 22 x_10) 23 x_11) 24 x_12) 25 x_13) 34 ncodes_159) 35 x_18) 37 npendings_156) 38 x_15) 39 x_16) (va_up (va_up (va_up mf 31 gop_157) 32 garg_158) 36 g_21) mg) H locs := hw155
            obtain ⟨hp_161, hp_162, hp_163, hp_164, hp_165, hp_166, hp_167, hp_168⟩ := hp
            have hp_161 : 0 ≤ npendings_156.toInt := hp_161
            have hp_162 : npendings_156.toInt ≤ x_17.toInt := hp_162
            have hp_163 : ncodes_159.toInt + npendings_156.toInt = x_14.toInt + x_17.toInt := hp_163
            have hp_164 : 0 ≤ ncodes_159.toInt := hp_164
            have hp_165 : LW 0 0 gop_157 garg_158 (mf 28) (mf 29) (mf 30) ((mf 27) 0).toInt 400 := hp_165
            have hp_166 : LW 16 400 gop_157 garg_158 (mf 28) (mf 29) (mf 30) ((mf 27) 1).toInt 400 := hp_166
            have hp_167 : SE (10 : Int32) g_21 (x_17.toInt).toNat g_19 g_20 (800 + (x_14.toInt).toNat) (npendings_156.toInt).toNat gop_157 garg_158 (800 + (ncodes_159.toInt).toNat) := hp_167
            have hp_168 : NT (10 : Int32) g_21 (npendings_156.toInt).toNat := hp_168
            refine lv_aload_n (pc := 178) E.1 E.2.1 dX12_readAny_178 rfl (lv_at hl24 2 rfl) ?_
            refine lv_bipush (pc := 179) (v := 11) E.1 E.2.1 dX12_readAny_179 (by decide +kernel) ?_
            refine cm_v (pc := 181) hw160 (rn_M (As := [.int 11]) (rest := []) E hw160 (s_settles11 l D cI cJ _ M mr (upd (upd (upd (upd (upd (upd (upd (upd (upd mi 22 x_10) 23 x_11) 24 x_12) 25 x_13) 34 ncodes_159) 35 x_18) 37 npendings_156) 38 x_15) 39 x_16) (va_up (va_up (va_up mf 31 gop_157) 32 garg_158) 36 g_21) mg (by show 0 ≤ npendings_156.toInt ∧ npendings_156.toInt ≤ 40; omega) hp_164 (by show ncodes_159.toInt + npendings_156.toInt ≤ 400; omega) ⟨hi_21_7, hi_21_8⟩ (show LW 0 0 gop_157 garg_158 (mf 28) (mf 29) (mf 30) ((mf 27) 0).toInt 400 from hp_165) (show LW 16 400 gop_157 garg_158 (mf 28) (mf 29) (mf 30) ((mf 27) 1).toInt 400 from hp_166)) (gdV q_1802 q_1804 q_86 q_162 q_1805) hdV_X12_settles ⟨rfl, rfl⟩ ⟨(Nat.le_of_ble_eq_true rfl), (Nat.le_of_ble_eq_true rfl)⟩ ⟨(Nat.le_of_ble_eq_true rfl), (Nat.le_of_ble_eq_true rfl)⟩ 12 rfl rfl rfl rfl hl24.1 rfl (Nat.le_of_ble_eq_true rfl) dX12_readAny_181) (fun u_169 H1 locs hp hw171 => ?_)
            obtain ⟨npendings_172, gop_173, garg_174, ncodes_175⟩ := u_169
            generalize H1 = H at hw171 ⊢
            have hw176 : WD D A s.heap (MW cI cJ M mr (upd (upd (upd (upd (upd (upd (upd (upd (upd mi 22 x_10) 23 x_11) 24 x_12) 25 x_13) 34 ncodes_175) 35 x_18) 37 npendings_172) 38 x_15) 39 x_16) (va_up (va_up (va_up mf 31 gop_173) 32 garg_174) 36 g_21) mg) H locs := hw171
            obtain ⟨hp_177, hp_178, hp_179, hp_180, hp_181, hp_182, hp_183, hp_184⟩ := hp
            have hp_177 : 0 ≤ npendings_172.toInt := hp_177
            have hp_178 : npendings_172.toInt ≤ npendings_156.toInt := hp_178
            have hp_179 : ncodes_175.toInt + npendings_172.toInt = ncodes_159.toInt + npendings_156.toInt := hp_179
            have hp_180 : 0 ≤ ncodes_175.toInt := hp_180
            have hp_181 : LW 0 0 gop_173 garg_174 (mf 28) (mf 29) (mf 30) ((mf 27) 0).toInt 400 := hp_181
            have hp_182 : LW 16 400 gop_173 garg_174 (mf 28) (mf 29) (mf 30) ((mf 27) 1).toInt 400 := hp_182
            have hp_183 : SE (11 : Int32) g_21 (npendings_156.toInt).toNat gop_157 garg_158 (800 + (ncodes_159.toInt).toNat) (npendings_172.toInt).toNat gop_173 garg_174 (800 + (ncodes_175.toInt).toNat) := hp_183
            have hp_184 : NT (11 : Int32) g_21 (npendings_172.toInt).toNat := hp_184
            have ra_185 := RA_bin k10 k10b hra_26 hp_167
            have n9_186 := NT_keep9a hra_26.1 h9_27 hp_167.1 hp_167.2.2.1
            have ra_187 := RA_bin k11 k11b ra_185 hp_183
            have n9_188 := NT_keepo (Or.inl rfl) ra_185.1 n9_186 hp_183.1 hp_183.2.2.1
            have nt_189 := NT_keepo (Or.inr rfl) ra_185.1 hp_168 hp_183.1 hp_183.2.2.1
            refine lv_iload_n (pc := 184) E.1 E.2.1 dX12_readAny_184 rfl (lv_at hl24 1 rfl) ?_
            refine lv_if_ne (pc := 185) (tgt := 190) E.1 E.2.1 dX12_readAny_185 (by decide) (fun c_190 => ?_) (fun c_190 => ?_)
            · skip
              have hc_190 := neE (a := x_8.toInt) (b := 0) rfl (by decide +kernel) c_190
              refine lv_aload_n (pc := 190) E.1 E.2.1 dX12_readAny_190 rfl (lv_at hl24 2 rfl) ?_
              refine lv_bipush (pc := 191) (v := 41) E.1 E.2.1 dX12_readAny_191 (by decide +kernel) ?_
              refine cm_i (pc := 193) hw176 (rn_M (As := [.int 41]) (rest := []) E hw176 (s_isSign2 l D cI cJ _ M mr (upd (upd (upd (upd (upd (upd (upd (upd (upd mi 22 x_10) 23 x_11) 24 x_12) 25 x_13) 34 ncodes_175) 35 x_18) 37 npendings_172) 38 x_15) 39 x_16) (va_up (va_up (va_up mf 31 gop_173) 32 garg_174) 36 g_21) mg 41) (gdV q_1718 q_1720 q_65 q_162 q_1721) hdV_X12_isSign ⟨rfl, rfl⟩ ⟨(Nat.le_of_ble_eq_true rfl), (Nat.le_of_ble_eq_true rfl)⟩ ⟨(Nat.le_of_ble_eq_true rfl), (Nat.le_of_ble_eq_true rfl)⟩ 12 rfl rfl rfl rfl hl24.1 rfl (Nat.le_of_ble_eq_true rfl) dX12_readAny_193) (fun r_192 u_191 H1 locs hp hw193 => ?_)
              generalize H1 = H at hw193 ⊢
              have hw194 : WD D A s.heap (MW cI cJ M mr (upd (upd (upd (upd (upd (upd (upd (upd (upd mi 22 x_10) 23 x_11) 24 x_12) 25 x_13) 34 ncodes_175) 35 x_18) 37 npendings_172) 38 x_15) 39 x_16) (va_up (va_up (va_up mf 31 gop_173) 32 garg_174) 36 g_21) mg) H locs := hw193
              have hp_195 := hp
              rcases hp_195 with ⟨rfl, ha_196, ha_197⟩ | rfl
              · skip
                have ha_196 : x_12.toInt = 4 := ha_196
                have ha_197 : x_13.toInt = (41 : Int32).toInt := ha_197
                rw [show (41 : Int32).toInt = 41 from by decide +kernel] at ha_197
                refine lv_if_ne (pc := 196) (tgt := 205) E.1 E.2.1 dX12_readAny_196 (by decide) (fun _ => ?_) (fun c_198 => absurd c_198 (mneE (a := 1) (b := 0) (by decide +kernel) (by decide +kernel) (by omega)))
                have ra_199 := RA_bin k10 k10b hra_26 hp_167
                have n9_200 := NT_keep9a hra_26.1 h9_27 hp_167.1 hp_167.2.2.1
                have ra_201 := RA_bin k11 k11b ra_199 hp_183
                have n9_202 := NT_keepo (Or.inl rfl) ra_199.1 n9_200 hp_183.1 hp_183.2.2.1
                have nt_203 := NT_keepo (Or.inr rfl) ra_199.1 hp_168 hp_183.1 hp_183.2.2.1
                have hb_204 := RA_br ra_201
                have hb_204o : 0 ≤ x_18.toInt := hb_204.2.2
                have hb_204b : 0 ≤ x_8.toInt := hb_204.1
                have hb_204c : x_8.toInt ≤ npendings_172.toInt := by have q := hb_204.2.1; omega
                refine lv_aload_n (pc := 205) E.1 E.2.1 dX12_readAny_205 rfl (lv_at hl24 2 rfl) ?_
                refine lv_aload_n (pc := 206) E.1 E.2.1 dX12_readAny_206 rfl (lv_at hl24 2 rfl) ?_
                refine x_get (pc := 207) (T := TX12) (N := 70) (ci := 12) (v := .int npendings_172) E hw194 inX12 0 37 q_1436 rfl rfl (by decide) rfl rfl dX12_readAny_207 ?_
                refine lv_iconst (pc := 210) (v := 1) E.1 E.2.1 dX12_readAny_210 (by decide +kernel) ?_
                refine lv_isub (pc := 211) E.1 E.2.1 dX12_readAny_211 ?_
                refine lv_topi (fun v_205 ev_205 => ?_)
                have hv_205 : v_205.toInt = npendings_172.toInt - 1 := by rw [ev_205]; exact subE rfl (by decide +kernel) (by omega)
                refine x_put (pc := 212) (T := TX12) (N := 70) (ci := 12) (ws' := (MW cI cJ M mr (upd (upd (upd (upd (upd (upd (upd (upd (upd mi 22 x_10) 23 x_11) 24 x_12) 25 x_13) 34 ncodes_175) 35 x_18) 37 v_205) 38 x_15) 39 x_16) (va_up (va_up (va_up mf 31 gop_173) 32 garg_174) 36 g_21) mg)) E hw194 inX12 tyX12_ok nmX12 0 37 q_1436 rfl rfl (by decide) rfl rfl rfl rfl (Nat.le_of_ble_eq_true rfl) rfl dX12_readAny_212 (fun H locs hw206 => ?_)
                refine lv_iload_n (pc := 215) E.1 E.2.1 dX12_readAny_215 rfl (lv_at hl24 1 rfl) ?_
                refine lv_iconst (pc := 216) (v := 1) E.1 E.2.1 dX12_readAny_216 (by decide +kernel) ?_
                refine lv_isub (pc := 217) E.1 E.2.1 dX12_readAny_217 ?_
                refine lv_topi (fun v_207 ev_207 => ?_)
                have hv_207 : v_207.toInt = x_8.toInt - 1 := by rw [ev_207]; exact subE rfl (by decide +kernel) (by omega)
                refine lv_istore_n (pc := 218) (lv' := [(1, .int v_207), (2, .int x_9), (0, .ref M)]) E.1 E.2.1 dX12_readAny_218 rfl hl24 (by decide) rfl (fun ls hl208 => ?_)
                refine lv_aload_n (pc := 219) E.1 E.2.1 dX12_readAny_219 rfl (lv_at hl208 2 rfl) ?_
                refine lv_aload_n (pc := 220) E.1 E.2.1 dX12_readAny_220 rfl (lv_at hl208 2 rfl) ?_
                refine x_get (pc := 221) (T := TX12) (N := 70) (ci := 12) (v := .int x_18) E hw206 inX12 0 35 q_1434 rfl rfl (by decide) rfl rfl dX12_readAny_221 ?_
                refine lv_iconst (pc := 224) (v := 1) E.1 E.2.1 dX12_readAny_224 (by decide +kernel) ?_
                refine lv_isub (pc := 225) E.1 E.2.1 dX12_readAny_225 ?_
                refine lv_topi (fun v_209 ev_209 => ?_)
                have hv_209 : v_209.toInt = x_18.toInt - 1 := by rw [ev_209]; exact subE rfl (by decide +kernel) (by omega)
                refine x_put (pc := 226) (T := TX12) (N := 70) (ci := 12) (ws' := (MW cI cJ M mr (upd (upd (upd (upd (upd (upd (upd (upd (upd mi 22 x_10) 23 x_11) 24 x_12) 25 x_13) 34 ncodes_175) 35 v_209) 37 v_205) 38 x_15) 39 x_16) (va_up (va_up (va_up mf 31 gop_173) 32 garg_174) 36 g_21) mg)) E hw206 inX12 tyX12_ok nmX12 0 35 q_1434 rfl rfl (by decide) rfl rfl rfl rfl (Nat.le_of_ble_eq_true rfl) rfl dX12_readAny_226 (fun H locs hw210 => ?_)
                have hcl_211 : RA (mf 31) (mf 32) (800 + ((mi 34).toInt).toNat) gop_173 garg_174 (800 + (ncodes_175.toInt).toNat) g_21 (v_205.toInt).toNat v_209.toInt v_207.toInt 1 := RA_close ra_201 n9_202 nt_203 hp_184 (by omega) (by omega) (by omega) (by omega)
                have hb_212 := RA_br hcl_211
                have hb_212o : 0 ≤ v_209.toInt := hb_212.2.2
                have hb_212b : 0 ≤ v_207.toInt := hb_212.1
                have hb_212c : v_207.toInt ≤ v_205.toInt := by have q := hb_212.2.1; omega
                refine lv_aload_n (pc := 229) E.1 E.2.1 dX12_readAny_229 rfl (lv_at hl208 2 rfl) ?_
                refine lv_bipush (pc := 230) (v := 9) E.1 E.2.1 dX12_readAny_230 (by decide +kernel) ?_
                refine cm_v (pc := 232) hw210 (rn_M (As := [.int 9]) (rest := []) E hw210 (s_settles9 l D cI cJ _ M mr (upd (upd (upd (upd (upd (upd (upd (upd (upd mi 22 x_10) 23 x_11) 24 x_12) 25 x_13) 34 ncodes_175) 35 v_209) 37 v_205) 38 x_15) 39 x_16) (va_up (va_up (va_up mf 31 gop_173) 32 garg_174) 36 g_21) mg (by show 0 ≤ v_205.toInt ∧ v_205.toInt ≤ 40; omega) hp_180 (by show ncodes_175.toInt + v_205.toInt ≤ 400; omega) (by show 0 ≤ v_209.toInt ∧ v_209.toInt ≤ 8; omega) (show LW 0 0 gop_173 garg_174 (mf 28) (mf 29) (mf 30) ((mf 27) 0).toInt 400 from hp_181) (show LW 16 400 gop_173 garg_174 (mf 28) (mf 29) (mf 30) ((mf 27) 1).toInt 400 from hp_182)) (gdV q_1802 q_1804 q_86 q_162 q_1805) hdV_X12_settles ⟨rfl, rfl⟩ ⟨(Nat.le_of_ble_eq_true rfl), (Nat.le_of_ble_eq_true rfl)⟩ ⟨(Nat.le_of_ble_eq_true rfl), (Nat.le_of_ble_eq_true rfl)⟩ 12 rfl rfl rfl rfl hl208.1 rfl (Nat.le_of_ble_eq_true rfl) dX12_readAny_232) (fun u_213 H1 locs hp hw215 => ?_)
                obtain ⟨npendings_216, gop_217, garg_218, ncodes_219, nopen_220⟩ := u_213
                generalize H1 = H at hw215 ⊢
                have hw221 : WD D A s.heap (MW cI cJ M mr (upd (upd (upd (upd (upd (upd (upd (upd (upd mi 22 x_10) 23 x_11) 24 x_12) 25 x_13) 34 ncodes_219) 35 nopen_220) 37 npendings_216) 38 x_15) 39 x_16) (va_up (va_up (va_up mf 31 gop_217) 32 garg_218) 36 g_21) mg) H locs := hw215
                obtain ⟨hp_222, hp_223, hp_224, hp_225, hp_226, hp_227, hp_228, hp_229, hp_230⟩ := hp
                have hp_222 : 0 ≤ npendings_216.toInt := hp_222
                have hp_223 : npendings_216.toInt ≤ v_205.toInt := hp_223
                have hp_224 : ncodes_219.toInt + npendings_216.toInt = ncodes_175.toInt + v_205.toInt := hp_224
                have hp_225 : 0 ≤ ncodes_219.toInt := hp_225
                have hp_226 : nopen_220.toInt = v_209.toInt - v_205.toInt + npendings_216.toInt := hp_226
                have hp_227 : LW 0 0 gop_217 garg_218 (mf 28) (mf 29) (mf 30) ((mf 27) 0).toInt 400 := hp_227
                have hp_228 : LW 16 400 gop_217 garg_218 (mf 28) (mf 29) (mf 30) ((mf 27) 1).toInt 400 := hp_228
                have hp_229 : SE (9 : Int32) g_21 (v_205.toInt).toNat gop_173 garg_174 (800 + (ncodes_175.toInt).toNat) (npendings_216.toInt).toNat gop_217 garg_218 (800 + (ncodes_219.toInt).toNat) := hp_229
                have hp_230 : NT (9 : Int32) g_21 (npendings_216.toInt).toNat := hp_230
                refine lv_aload_n (pc := 235) E.1 E.2.1 dX12_readAny_235 rfl (lv_at hl208 2 rfl) ?_
                refine cm_v (pc := 236) hw221 (rn_M (As := []) (rest := []) E hw221 (s_reads l D cI cJ _ M mr (upd (upd (upd (upd (upd (upd (upd (upd (upd mi 22 x_10) 23 x_11) 24 x_12) 25 x_13) 34 ncodes_219) 35 nopen_220) 37 npendings_216) 38 x_15) 39 x_16) (va_up (va_up (va_up mf 31 gop_217) 32 garg_218) 36 g_21) mg (by show 0 ≤ x_10.toInt; omega) hi_21_2 h3 h7) (gdV q_1666 q_1668 q_52 q_162 q_1669) hdV_X12_reads ⟨rfl, rfl⟩ ⟨(Nat.le_of_ble_eq_true rfl), (Nat.le_of_ble_eq_true rfl)⟩ ⟨(Nat.le_of_ble_eq_true rfl), (Nat.le_of_ble_eq_true rfl)⟩ 12 rfl rfl rfl rfl hl208.1 rfl (Nat.le_of_ble_eq_true rfl) dX12_readAny_236) (fun u_231 H1 locs hp hw233 => ?_)
                obtain ⟨nspot_234, nfrom_235, ntoken_236, nvalue_237⟩ := u_231
                generalize H1 = H at hw233 ⊢
                have hw238 : WD D A s.heap (MW cI cJ M mr (upd (upd (upd (upd (upd (upd (upd (upd (upd mi 22 nspot_234) 23 nfrom_235) 24 ntoken_236) 25 nvalue_237) 34 ncodes_219) 35 nopen_220) 37 npendings_216) 38 x_15) 39 x_16) (va_up (va_up (va_up mf 31 gop_217) 32 garg_218) 36 g_21) mg) H locs := hw233
                obtain ⟨hp_239, hp_240, hp_241, hp_242, hp_243, hp_244, hp_245⟩ := hp
                have hp_239 : 0 ≤ nfrom_235.toInt := hp_239
                have hp_240 : nfrom_235.toInt ≤ nspot_234.toInt := hp_240
                have hp_241 : nspot_234.toInt ≤ (mi 21).toInt := hp_241
                have hp_242 : 0 ≤ ntoken_236.toInt := hp_242
                have hp_243 : ntoken_236.toInt ≤ 4 := hp_243
                have hp_244 : ntoken_236.toInt ≤ 4 * nspot_234.toInt - 4 * nfrom_235.toInt := hp_244
                have hp_245 : x_10.toInt ≤ nfrom_235.toInt := hp_245
                refine lv_goto (pc := 239) (tgt := 9) E.1 E.2.1 dX12_readAny_239 (by decide) ?_
                have hra_246 : RA (mf 31) (mf 32) (800 + ((mi 34).toInt).toNat) gop_217 garg_218 (800 + (ncodes_219.toInt).toNat) g_21 (npendings_216.toInt).toNat nopen_220.toInt v_207.toInt 1 := RA_not hcl_211 hp_229 (by omega)
                have hb_247 := RA_br hra_246
                have hb_247o : 0 ≤ nopen_220.toInt := hb_247.2.2
                have hb_247b : 0 ≤ v_207.toInt := hb_247.1
                have hb_247c : v_207.toInt ≤ npendings_216.toInt := by have q := hb_247.2.1; omega
                have hra_246p : npendings_216.toInt ≤ 26 := by have q := RA_pend hra_246 (by omega); omega
                exact ih_22 v_207 x_9 nspot_234 nfrom_235 ntoken_236 nvalue_237 ncodes_219 x_15 x_16 npendings_216 nopen_220 gop_217 garg_218 g_21 _ _ _ ⟨hp_239, hp_240, hp_241, hp_242, hp_243, hp_244, hp_225, (by show 0 ≤ nopen_220.toInt; omega), (by show nopen_220.toInt ≤ 8; omega), hp_222, (by show npendings_216.toInt ≤ 26; omega), (by show 0 ≤ v_207.toInt; omega), (by show v_207.toInt ≤ npendings_216.toInt; omega), hi_21_13, hi_21_14, (by show (mi 23).toInt - (mi 34).toInt ≤ nfrom_235.toInt - ncodes_219.toInt - npendings_216.toInt; omega), (by show (mi 23).toInt + 1 - x_9.toInt ≤ nfrom_235.toInt; omega), (RA_pn hra_246 rfl (by first | rfl | decide +kernel | omega) rfl), (fun _ => hp_230), (show LW 0 0 gop_217 garg_218 (mf 28) (mf 29) (mf 30) ((mf 27) 0).toInt 400 from hp_227), (show LW 16 400 gop_217 garg_218 (mf 28) (mf 29) (mf 30) ((mf 27) 1).toInt 400 from hp_228)⟩ (by omega) hw238 (lv_sub hl208 [1, 0, 2] rfl)
              · skip
                refine lv_if_ne (pc := 196) (tgt := 205) E.1 E.2.1 dX12_readAny_196 (by decide) (fun c_248 => absurd (meqE (a := 0) (b := 0) (by decide +kernel) (by decide +kernel) (by omega)) c_248) (fun _ => ?_)
                refine lv_aload_n (pc := 199) E.1 E.2.1 dX12_readAny_199 rfl (lv_at hl24 2 rfl) ?_
                refine lv_iconst (pc := 200) (v := 1) E.1 E.2.1 dX12_readAny_200 (by decide +kernel) ?_
                refine cm_i (pc := 201) hw194 (rn_M (As := [.int 1]) (rest := []) E hw194 (s_errs2 l D cI cJ _ M mr (upd (upd (upd (upd (upd (upd (upd (upd (upd mi 22 x_10) 23 x_11) 24 x_12) 25 x_13) 34 ncodes_175) 35 x_18) 37 npendings_172) 38 x_15) 39 x_16) (va_up (va_up (va_up mf 31 gop_173) 32 garg_174) 36 g_21) mg 1) (gdV q_1698 q_1700 q_60 q_162 q_1701) hdV_X12_errs ⟨rfl, rfl⟩ ⟨(Nat.le_of_ble_eq_true rfl), (Nat.le_of_ble_eq_true rfl)⟩ ⟨(Nat.le_of_ble_eq_true rfl), (Nat.le_of_ble_eq_true rfl)⟩ 12 rfl rfl rfl rfl hl24.1 rfl (Nat.le_of_ble_eq_true rfl) dX12_readAny_201) (fun r_250 u_249 H1 locs hp hw251 => ?_)
                obtain ⟨nreadFault_252, nreadPlace_253⟩ := u_249
                generalize H1 = H at hw251 ⊢
                have hw254 : WD D A s.heap (MW cI cJ M mr (upd (upd (upd (upd (upd (upd (upd (upd (upd mi 22 x_10) 23 x_11) 24 x_12) 25 x_13) 34 ncodes_175) 35 x_18) 37 npendings_172) 38 nreadFault_252) 39 nreadPlace_253) (va_up (va_up (va_up mf 31 gop_173) 32 garg_174) 36 g_21) mg) H locs := hw251
                have hp_255 := hp
                rcases hp_255 with rfl
                · skip
                  exact em_i (w1 := (fun (u : Int32 × Int32 × Int32 × Int32 × (Nat → Int32) × (Nat → Int32) × Int32 × Int32 × Int32 × (Nat → Int32) × Int32 × Int32) => (MW cI cJ M mr (upd (upd (upd (upd (upd (upd (upd (upd (upd mi 22 u.1) 23 u.2.1) 24 u.2.2.1) 25 u.2.2.2.1) 34 u.2.2.2.2.2.2.1) 38 u.2.2.2.2.2.2.2.1) 39 u.2.2.2.2.2.2.2.2.1) 37 u.2.2.2.2.2.2.2.2.2.2.1) 35 u.2.2.2.2.2.2.2.2.2.2.2) (va_up (va_up (va_up mf 31 u.2.2.2.2.1) 32 u.2.2.2.2.2.1) 36 u.2.2.2.2.2.2.2.2.2.1) mg))) E hr hlk (x_10, x_11, x_12, x_13, gop_173, garg_174, ncodes_175, nreadFault_252, nreadPlace_253, g_21, npendings_172, x_18) hw254 ⟨hi_21_0, hi_21_1, hi_21_2, hi_21_3, hi_21_4, hi_21_5, hp_180, (by show ncodes_175.toInt ≤ x_11.toInt; have k_0 : ((-1) : Int32).toInt = -1 := (by decide +kernel); omega), hi_21_7, hi_21_8, hp_181, hp_182, (fun h => absurd h (by decide +kernel)), (Or.inl rfl)⟩ (Nat.le_of_ble_eq_true rfl) (Nat.le_of_ble_eq_true rfl) dX12_readAny_204
            · skip
              have hc_190 := eqE (a := x_8.toInt) (b := 0) rfl (by decide +kernel) c_190
              refine lv_iconst (pc := 188) (v := 0) E.1 E.2.1 dX12_readAny_188 (by decide +kernel) ?_
              exact em_i (w1 := (fun (u : Int32 × Int32 × Int32 × Int32 × (Nat → Int32) × (Nat → Int32) × Int32 × Int32 × Int32 × (Nat → Int32) × Int32 × Int32) => (MW cI cJ M mr (upd (upd (upd (upd (upd (upd (upd (upd (upd mi 22 u.1) 23 u.2.1) 24 u.2.2.1) 25 u.2.2.2.1) 34 u.2.2.2.2.2.2.1) 38 u.2.2.2.2.2.2.2.1) 39 u.2.2.2.2.2.2.2.2.1) 37 u.2.2.2.2.2.2.2.2.2.2.1) 35 u.2.2.2.2.2.2.2.2.2.2.2) (va_up (va_up (va_up mf 31 u.2.2.2.2.1) 32 u.2.2.2.2.2.1) 36 u.2.2.2.2.2.2.2.2.2.1) mg))) E hr hlk (x_10, x_11, x_12, x_13, gop_173, garg_174, ncodes_175, x_15, x_16, g_21, npendings_172, x_18) hw176 ⟨hi_21_0, hi_21_1, hi_21_2, hi_21_3, hi_21_4, hi_21_5, hp_180, (by show ncodes_175.toInt ≤ x_11.toInt; have k_0 : (0 : Int32).toInt = 0 := (by decide +kernel); omega), hi_21_7, hi_21_8, hp_181, hp_182, (fun _ => (show TX (mf 31) (mf 32) (800 + ((mi 34).toInt).toNat) gop_173 garg_174 (800 + (ncodes_175.toInt).toNat) from (RA_end ra_187 n9_188 nt_189 hp_184 (by omega)))), (Or.inr (⟨rfl, (by show (mi 23).toInt - (mi 34).toInt ≤ x_11.toInt - ncodes_175.toInt; omega), (by show (mi 23).toInt + 1 ≤ x_11.toInt; omega)⟩))⟩ (Nat.le_of_ble_eq_true rfl) (Nat.le_of_ble_eq_true rfl) dX12_readAny_189
      · skip
        have hc_25 := neE (a := x_9.toInt) (b := 0) rfl (by decide +kernel) c_25
        have hra_257 : RA (mf 31) (mf 32) (800 + ((mi 34).toInt).toNat) g_19 g_20 (800 + (x_14.toInt).toNat) g_21 (x_17.toInt).toNat x_18.toInt x_8.toInt 0 := RA_pn hi_21_17 rfl (by omega) rfl
        refine lv_aload_n (pc := 13) E.1 E.2.1 dX12_readAny_13 rfl (lv_at hl24 2 rfl) ?_
        refine lv_iconst (pc := 14) (v := 5) E.1 E.2.1 dX12_readAny_14 (by decide +kernel) ?_
        refine cm_i (pc := 15) hw23 (rn_M (As := [.int 5]) (rest := []) E hw23 (s_isWord2 l D cI cJ _ M mr (upd (upd (upd (upd (upd (upd (upd (upd (upd mi 22 x_10) 23 x_11) 24 x_12) 25 x_13) 34 x_14) 35 x_18) 37 x_17) 38 x_15) 39 x_16) (va_up (va_up (va_up mf 31 g_19) 32 g_20) 36 g_21) mg 5) (gdV q_1694 q_1696 q_59 q_162 q_1697) hdV_X12_isWord ⟨rfl, rfl⟩ ⟨(Nat.le_of_ble_eq_true rfl), (Nat.le_of_ble_eq_true rfl)⟩ ⟨(Nat.le_of_ble_eq_true rfl), (Nat.le_of_ble_eq_true rfl)⟩ 12 rfl rfl rfl rfl hl24.1 rfl (Nat.le_of_ble_eq_true rfl) dX12_readAny_15) (fun r_259 u_258 H1 locs hp hw260 => ?_)
        generalize H1 = H at hw260 ⊢
        have hw261 : WD D A s.heap (MW cI cJ M mr (upd (upd (upd (upd (upd (upd (upd (upd (upd mi 22 x_10) 23 x_11) 24 x_12) 25 x_13) 34 x_14) 35 x_18) 37 x_17) 38 x_15) 39 x_16) (va_up (va_up (va_up mf 31 g_19) 32 g_20) 36 g_21) mg) H locs := hw260
        have hp_262 := hp
        rcases hp_262 with ⟨rfl, ha_263, ha_264⟩ | rfl
        · skip
          have ha_263 : x_12.toInt = 2 := ha_263
          have ha_264 : x_13.toInt = (5 : Int32).toInt := ha_264
          rw [show (5 : Int32).toInt = 5 from by decide +kernel] at ha_264
          refine lv_istore_n (pc := 18) (lv' := [(3, .int 1), (2, .int x_9), (1, .int x_8), (0, .ref M)]) E.1 E.2.1 dX12_readAny_18 rfl hl24 (by decide) rfl (fun ls hl265 => ?_)
          refine lv_iload_n (pc := 19) E.1 E.2.1 dX12_readAny_19 rfl (lv_at hl265 0 rfl) ?_
          refine lv_if_ne (pc := 20) (tgt := 32) E.1 E.2.1 dX12_readAny_20 (by decide) (fun _ => ?_) (fun c_266 => absurd c_266 (mneE (a := 1) (b := 0) (by decide +kernel) (by decide +kernel) (by omega)))
          refine lv_aload_n (pc := 32) E.1 E.2.1 dX12_readAny_32 rfl (lv_at hl265 3 rfl) ?_
          refine x_get (pc := 33) (T := TX12) (N := 70) (ci := 12) (v := .int x_18) E hw261 inX12 0 35 q_1434 rfl rfl (by decide) rfl rfl dX12_readAny_33 ?_
          refine lv_bipush (pc := 36) (v := 8) E.1 E.2.1 dX12_readAny_36 (by decide +kernel) ?_
          refine lv_icmp_ne (pc := 38) (tgt := 47) E.1 E.2.1 dX12_readAny_38 (by decide) (fun c_267 => ?_) (fun c_267 => ?_)
          · skip
            have hc_267 := neE (a := x_18.toInt) (b := 8) rfl (by decide +kernel) c_267
            refine lv_aload_n (pc := 47) E.1 E.2.1 dX12_readAny_47 rfl (lv_at hl265 3 rfl) ?_
            refine lv_aload_n (pc := 48) E.1 E.2.1 dX12_readAny_48 rfl (lv_at hl265 3 rfl) ?_
            refine x_get (pc := 49) (T := TX12) (N := 70) (ci := 12) (v := .int x_18) E hw261 inX12 0 35 q_1434 rfl rfl (by decide) rfl rfl dX12_readAny_49 ?_
            refine lv_iconst (pc := 52) (v := 1) E.1 E.2.1 dX12_readAny_52 (by decide +kernel) ?_
            refine lv_iadd (pc := 53) E.1 E.2.1 dX12_readAny_53 ?_
            refine lv_topi (fun v_268 ev_268 => ?_)
            have hv_268 : v_268.toInt = x_18.toInt + 1 := by rw [ev_268]; exact addE rfl (by decide +kernel) (by omega)
            refine x_put (pc := 54) (T := TX12) (N := 70) (ci := 12) (ws' := (MW cI cJ M mr (upd (upd (upd (upd (upd (upd (upd (upd (upd mi 22 x_10) 23 x_11) 24 x_12) 25 x_13) 34 x_14) 35 v_268) 37 x_17) 38 x_15) 39 x_16) (va_up (va_up (va_up mf 31 g_19) 32 g_20) 36 g_21) mg)) E hw261 inX12 tyX12_ok nmX12 0 35 q_1434 rfl rfl (by decide) rfl rfl rfl rfl (Nat.le_of_ble_eq_true rfl) rfl dX12_readAny_54 (fun H locs hw269 => ?_)
            refine lv_iload_n (pc := 57) E.1 E.2.1 dX12_readAny_57 rfl (lv_at hl265 0 rfl) ?_
            refine lv_if_ne (pc := 58) (tgt := 65) E.1 E.2.1 dX12_readAny_58 (by decide) (fun _ => ?_) (fun c_270 => absurd c_270 (mneE (a := 1) (b := 0) (by decide +kernel) (by decide +kernel) (by omega)))
            refine lv_aload_n (pc := 65) E.1 E.2.1 dX12_readAny_65 rfl (lv_at hl265 3 rfl) ?_
            refine lv_iload_n (pc := 66) E.1 E.2.1 dX12_readAny_66 rfl (lv_at hl265 0 rfl) ?_
            refine lv_if_eq (pc := 67) (tgt := 75) E.1 E.2.1 dX12_readAny_67 (by decide) (fun c_271 => absurd c_271 (mneE (a := 1) (b := 0) (by decide +kernel) (by decide +kernel) (by omega))) (fun _ => ?_)
            refine lv_bipush (pc := 70) (v := 9) E.1 E.2.1 dX12_readAny_70 (by decide +kernel) ?_
            refine lv_goto (pc := 72) (tgt := 77) E.1 E.2.1 dX12_readAny_72 (by decide) ?_
            refine cm_v (pc := 77) hw269 (rn_M (As := [.int 9]) (rest := []) E hw269 (s_waits2 l D cI cJ _ M mr (upd (upd (upd (upd (upd (upd (upd (upd (upd mi 22 x_10) 23 x_11) 24 x_12) 25 x_13) 34 x_14) 35 v_268) 37 x_17) 38 x_15) 39 x_16) (va_up (va_up (va_up mf 31 g_19) 32 g_20) 36 g_21) mg 9 (by show 0 ≤ x_17.toInt ∧ x_17.toInt ≤ 39; omega)) (gdV q_1794 q_1796 q_84 q_162 q_1797) hdV_X12_waits ⟨rfl, rfl⟩ ⟨(Nat.le_of_ble_eq_true rfl), (Nat.le_of_ble_eq_true rfl)⟩ ⟨(Nat.le_of_ble_eq_true rfl), (Nat.le_of_ble_eq_true rfl)⟩ 12 rfl rfl rfl rfl hl265.1 rfl (Nat.le_of_ble_eq_true rfl) dX12_readAny_77) (fun u_272 H1 locs hp hw274 => ?_)
            obtain ⟨gpending_275, npendings_276⟩ := u_272
            generalize H1 = H at hw274 ⊢
            have hw277 : WD D A s.heap (MW cI cJ M mr (upd (upd (upd (upd (upd (upd (upd (upd (upd mi 22 x_10) 23 x_11) 24 x_12) 25 x_13) 34 x_14) 35 v_268) 37 npendings_276) 38 x_15) 39 x_16) (va_up (va_up (va_up mf 31 g_19) 32 g_20) 36 gpending_275) mg) H locs := hw274
            obtain ⟨hp_278, hp_279⟩ := hp
            have hp_278 : npendings_276.toInt = x_17.toInt + 1 := hp_278
            have hp_279 : gpending_275 ((x_17.toInt).toNat) = (9 : Int32) ∧ ∀ j : Nat, j < (x_17.toInt).toNat → gpending_275 j = g_21 j := hp_279
            refine lv_aload_n (pc := 80) E.1 E.2.1 dX12_readAny_80 rfl (lv_at hl265 3 rfl) ?_
            refine cm_v (pc := 81) hw277 (rn_M (As := []) (rest := []) E hw277 (s_reads l D cI cJ _ M mr (upd (upd (upd (upd (upd (upd (upd (upd (upd mi 22 x_10) 23 x_11) 24 x_12) 25 x_13) 34 x_14) 35 v_268) 37 npendings_276) 38 x_15) 39 x_16) (va_up (va_up (va_up mf 31 g_19) 32 g_20) 36 gpending_275) mg (by show 0 ≤ x_10.toInt; omega) hi_21_2 h3 h7) (gdV q_1666 q_1668 q_52 q_162 q_1669) hdV_X12_reads ⟨rfl, rfl⟩ ⟨(Nat.le_of_ble_eq_true rfl), (Nat.le_of_ble_eq_true rfl)⟩ ⟨(Nat.le_of_ble_eq_true rfl), (Nat.le_of_ble_eq_true rfl)⟩ 12 rfl rfl rfl rfl hl265.1 rfl (Nat.le_of_ble_eq_true rfl) dX12_readAny_81) (fun u_280 H1 locs hp hw282 => ?_)
            obtain ⟨nspot_283, nfrom_284, ntoken_285, nvalue_286⟩ := u_280
            generalize H1 = H at hw282 ⊢
            have hw287 : WD D A s.heap (MW cI cJ M mr (upd (upd (upd (upd (upd (upd (upd (upd (upd mi 22 nspot_283) 23 nfrom_284) 24 ntoken_285) 25 nvalue_286) 34 x_14) 35 v_268) 37 npendings_276) 38 x_15) 39 x_16) (va_up (va_up (va_up mf 31 g_19) 32 g_20) 36 gpending_275) mg) H locs := hw282
            obtain ⟨hp_288, hp_289, hp_290, hp_291, hp_292, hp_293, hp_294⟩ := hp
            have hp_288 : 0 ≤ nfrom_284.toInt := hp_288
            have hp_289 : nfrom_284.toInt ≤ nspot_283.toInt := hp_289
            have hp_290 : nspot_283.toInt ≤ (mi 21).toInt := hp_290
            have hp_291 : 0 ≤ ntoken_285.toInt := hp_291
            have hp_292 : ntoken_285.toInt ≤ 4 := hp_292
            have hp_293 : ntoken_285.toInt ≤ 4 * nspot_283.toInt - 4 * nfrom_284.toInt := hp_293
            have hp_294 : x_10.toInt ≤ nfrom_284.toInt := hp_294
            refine lv_goto (pc := 84) (tgt := 9) E.1 E.2.1 dX12_readAny_84 (by decide) ?_
            have hra_295 : RA (mf 31) (mf 32) (800 + ((mi 34).toInt).toNat) g_19 g_20 (800 + (x_14.toInt).toNat) gpending_275 (npendings_276.toInt).toNat v_268.toInt x_8.toInt 0 := RA_pn (RA_open hra_257 hp_279.1 hp_279.2 (opn' := v_268.toInt) (br' := x_8.toInt) (by omega) (Or.inl ⟨rfl, rfl⟩)) (by omega) rfl rfl
            have hb_296 := RA_br hra_295
            have hb_296o : 0 ≤ v_268.toInt := hb_296.2.2
            have hb_296b : 0 ≤ x_8.toInt := hb_296.1
            have hb_296c : x_8.toInt ≤ npendings_276.toInt := by have q := hb_296.2.1; omega
            have hra_295p : npendings_276.toInt ≤ 26 := by have q := RA_pend hra_295 (by omega); omega
            exact ih_22 x_8 x_9 nspot_283 nfrom_284 ntoken_285 nvalue_286 x_14 x_15 x_16 npendings_276 v_268 g_19 g_20 gpending_275 _ _ _ ⟨hp_288, hp_289, hp_290, hp_291, hp_292, hp_293, hi_21_6, (by show 0 ≤ v_268.toInt; omega), (by show v_268.toInt ≤ 8; omega), (by show 0 ≤ npendings_276.toInt; omega), (by show npendings_276.toInt ≤ 26; omega), hi_21_11, (by show x_8.toInt ≤ npendings_276.toInt; omega), hi_21_13, hi_21_14, (by show (mi 23).toInt - (mi 34).toInt ≤ nfrom_284.toInt - x_14.toInt - npendings_276.toInt; omega), (by show (mi 23).toInt + 1 - x_9.toInt ≤ nfrom_284.toInt; omega), (RA_pn hra_295 rfl (by first | rfl | decide +kernel | omega) rfl), (fun h => absurd h (by omega)), (show LW 0 0 g_19 g_20 (mf 28) (mf 29) (mf 30) ((mf 27) 0).toInt 400 from hi_21_19), (show LW 16 400 g_19 g_20 (mf 28) (mf 29) (mf 30) ((mf 27) 1).toInt 400 from hi_21_20)⟩ (by omega) hw287 (lv_sub hl265 [1, 2, 3] rfl)
          · skip
            have hc_267 := eqE (a := x_18.toInt) (b := 8) rfl (by decide +kernel) c_267
            refine lv_aload_n (pc := 41) E.1 E.2.1 dX12_readAny_41 rfl (lv_at hl265 3 rfl) ?_
            refine lv_iconst (pc := 42) (v := 3) E.1 E.2.1 dX12_readAny_42 (by decide +kernel) ?_
            refine cm_i (pc := 43) hw261 (rn_M (As := [.int 3]) (rest := []) E hw261 (s_errs2 l D cI cJ _ M mr (upd (upd (upd (upd (upd (upd (upd (upd (upd mi 22 x_10) 23 x_11) 24 x_12) 25 x_13) 34 x_14) 35 x_18) 37 x_17) 38 x_15) 39 x_16) (va_up (va_up (va_up mf 31 g_19) 32 g_20) 36 g_21) mg 3) (gdV q_1698 q_1700 q_60 q_162 q_1701) hdV_X12_errs ⟨rfl, rfl⟩ ⟨(Nat.le_of_ble_eq_true rfl), (Nat.le_of_ble_eq_true rfl)⟩ ⟨(Nat.le_of_ble_eq_true rfl), (Nat.le_of_ble_eq_true rfl)⟩ 12 rfl rfl rfl rfl hl265.1 rfl (Nat.le_of_ble_eq_true rfl) dX12_readAny_43) (fun r_298 u_297 H1 locs hp hw299 => ?_)
            obtain ⟨nreadFault_300, nreadPlace_301⟩ := u_297
            generalize H1 = H at hw299 ⊢
            have hw302 : WD D A s.heap (MW cI cJ M mr (upd (upd (upd (upd (upd (upd (upd (upd (upd mi 22 x_10) 23 x_11) 24 x_12) 25 x_13) 34 x_14) 35 x_18) 37 x_17) 38 nreadFault_300) 39 nreadPlace_301) (va_up (va_up (va_up mf 31 g_19) 32 g_20) 36 g_21) mg) H locs := hw299
            have hp_303 := hp
            rcases hp_303 with rfl
            · skip
              exact em_i (w1 := (fun (u : Int32 × Int32 × Int32 × Int32 × (Nat → Int32) × (Nat → Int32) × Int32 × Int32 × Int32 × (Nat → Int32) × Int32 × Int32) => (MW cI cJ M mr (upd (upd (upd (upd (upd (upd (upd (upd (upd mi 22 u.1) 23 u.2.1) 24 u.2.2.1) 25 u.2.2.2.1) 34 u.2.2.2.2.2.2.1) 38 u.2.2.2.2.2.2.2.1) 39 u.2.2.2.2.2.2.2.2.1) 37 u.2.2.2.2.2.2.2.2.2.2.1) 35 u.2.2.2.2.2.2.2.2.2.2.2) (va_up (va_up (va_up mf 31 u.2.2.2.2.1) 32 u.2.2.2.2.2.1) 36 u.2.2.2.2.2.2.2.2.2.1) mg))) E hr hlk (x_10, x_11, x_12, x_13, g_19, g_20, x_14, nreadFault_300, nreadPlace_301, g_21, x_17, x_18) hw302 ⟨hi_21_0, hi_21_1, hi_21_2, hi_21_3, hi_21_4, hi_21_5, hi_21_6, (by show x_14.toInt ≤ x_11.toInt; have k_0 : ((-1) : Int32).toInt = -1 := (by decide +kernel); omega), hi_21_7, hi_21_8, hi_21_19, hi_21_20, (fun h => absurd h (by decide +kernel)), (Or.inl rfl)⟩ (Nat.le_of_ble_eq_true rfl) (Nat.le_of_ble_eq_true rfl) dX12_readAny_46
        · skip
          refine lv_istore_n (pc := 18) (lv' := [(3, .int 0), (2, .int x_9), (1, .int x_8), (0, .ref M)]) E.1 E.2.1 dX12_readAny_18 rfl hl24 (by decide) rfl (fun ls hl304 => ?_)
          refine lv_iload_n (pc := 19) E.1 E.2.1 dX12_readAny_19 rfl (lv_at hl304 0 rfl) ?_
          refine lv_if_ne (pc := 20) (tgt := 32) E.1 E.2.1 dX12_readAny_20 (by decide) (fun c_305 => absurd (meqE (a := 0) (b := 0) (by decide +kernel) (by decide +kernel) (by omega)) c_305) (fun _ => ?_)
          refine lv_aload_n (pc := 23) E.1 E.2.1 dX12_readAny_23 rfl (lv_at hl304 3 rfl) ?_
          refine lv_bipush (pc := 24) (v := 40) E.1 E.2.1 dX12_readAny_24 (by decide +kernel) ?_
          refine cm_i (pc := 26) hw261 (rn_M (As := [.int 40]) (rest := []) E hw261 (s_isSign2 l D cI cJ _ M mr (upd (upd (upd (upd (upd (upd (upd (upd (upd mi 22 x_10) 23 x_11) 24 x_12) 25 x_13) 34 x_14) 35 x_18) 37 x_17) 38 x_15) 39 x_16) (va_up (va_up (va_up mf 31 g_19) 32 g_20) 36 g_21) mg 40) (gdV q_1718 q_1720 q_65 q_162 q_1721) hdV_X12_isSign ⟨rfl, rfl⟩ ⟨(Nat.le_of_ble_eq_true rfl), (Nat.le_of_ble_eq_true rfl)⟩ ⟨(Nat.le_of_ble_eq_true rfl), (Nat.le_of_ble_eq_true rfl)⟩ 12 rfl rfl rfl rfl hl304.1 rfl (Nat.le_of_ble_eq_true rfl) dX12_readAny_26) (fun r_307 u_306 H1 locs hp hw308 => ?_)
          generalize H1 = H at hw308 ⊢
          have hw309 : WD D A s.heap (MW cI cJ M mr (upd (upd (upd (upd (upd (upd (upd (upd (upd mi 22 x_10) 23 x_11) 24 x_12) 25 x_13) 34 x_14) 35 x_18) 37 x_17) 38 x_15) 39 x_16) (va_up (va_up (va_up mf 31 g_19) 32 g_20) 36 g_21) mg) H locs := hw308
          have hp_310 := hp
          rcases hp_310 with ⟨rfl, ha_311, ha_312⟩ | rfl
          · skip
            have ha_311 : x_12.toInt = 4 := ha_311
            have ha_312 : x_13.toInt = (40 : Int32).toInt := ha_312
            rw [show (40 : Int32).toInt = 40 from by decide +kernel] at ha_312
            refine lv_if_eq (pc := 29) (tgt := 87) E.1 E.2.1 dX12_readAny_29 (by decide) (fun c_313 => absurd c_313 (mneE (a := 1) (b := 0) (by decide +kernel) (by decide +kernel) (by omega))) (fun _ => ?_)
            refine lv_aload_n (pc := 32) E.1 E.2.1 dX12_readAny_32 rfl (lv_at hl304 3 rfl) ?_
            refine x_get (pc := 33) (T := TX12) (N := 70) (ci := 12) (v := .int x_18) E hw309 inX12 0 35 q_1434 rfl rfl (by decide) rfl rfl dX12_readAny_33 ?_
            refine lv_bipush (pc := 36) (v := 8) E.1 E.2.1 dX12_readAny_36 (by decide +kernel) ?_
            refine lv_icmp_ne (pc := 38) (tgt := 47) E.1 E.2.1 dX12_readAny_38 (by decide) (fun c_314 => ?_) (fun c_314 => ?_)
            · skip
              have hc_314 := neE (a := x_18.toInt) (b := 8) rfl (by decide +kernel) c_314
              refine lv_aload_n (pc := 47) E.1 E.2.1 dX12_readAny_47 rfl (lv_at hl304 3 rfl) ?_
              refine lv_aload_n (pc := 48) E.1 E.2.1 dX12_readAny_48 rfl (lv_at hl304 3 rfl) ?_
              refine x_get (pc := 49) (T := TX12) (N := 70) (ci := 12) (v := .int x_18) E hw309 inX12 0 35 q_1434 rfl rfl (by decide) rfl rfl dX12_readAny_49 ?_
              refine lv_iconst (pc := 52) (v := 1) E.1 E.2.1 dX12_readAny_52 (by decide +kernel) ?_
              refine lv_iadd (pc := 53) E.1 E.2.1 dX12_readAny_53 ?_
              refine lv_topi (fun v_315 ev_315 => ?_)
              have hv_315 : v_315.toInt = x_18.toInt + 1 := by rw [ev_315]; exact addE rfl (by decide +kernel) (by omega)
              refine x_put (pc := 54) (T := TX12) (N := 70) (ci := 12) (ws' := (MW cI cJ M mr (upd (upd (upd (upd (upd (upd (upd (upd (upd mi 22 x_10) 23 x_11) 24 x_12) 25 x_13) 34 x_14) 35 v_315) 37 x_17) 38 x_15) 39 x_16) (va_up (va_up (va_up mf 31 g_19) 32 g_20) 36 g_21) mg)) E hw309 inX12 tyX12_ok nmX12 0 35 q_1434 rfl rfl (by decide) rfl rfl rfl rfl (Nat.le_of_ble_eq_true rfl) rfl dX12_readAny_54 (fun H locs hw316 => ?_)
              refine lv_iload_n (pc := 57) E.1 E.2.1 dX12_readAny_57 rfl (lv_at hl304 0 rfl) ?_
              refine lv_if_ne (pc := 58) (tgt := 65) E.1 E.2.1 dX12_readAny_58 (by decide) (fun c_317 => absurd (meqE (a := 0) (b := 0) (by decide +kernel) (by decide +kernel) (by omega)) c_317) (fun _ => ?_)
              refine lv_iload_n (pc := 61) E.1 E.2.1 dX12_readAny_61 rfl (lv_at hl304 2 rfl) ?_
              refine lv_iconst (pc := 62) (v := 1) E.1 E.2.1 dX12_readAny_62 (by decide +kernel) ?_
              refine lv_iadd (pc := 63) E.1 E.2.1 dX12_readAny_63 ?_
              refine lv_topi (fun v_318 ev_318 => ?_)
              have hv_318 : v_318.toInt = x_8.toInt + 1 := by rw [ev_318]; exact addE rfl (by decide +kernel) (by omega)
              refine lv_istore_n (pc := 64) (lv' := [(1, .int v_318), (3, .int 0), (2, .int x_9), (0, .ref M)]) E.1 E.2.1 dX12_readAny_64 rfl hl304 (by decide) rfl (fun ls hl319 => ?_)
              refine lv_aload_n (pc := 65) E.1 E.2.1 dX12_readAny_65 rfl (lv_at hl319 3 rfl) ?_
              refine lv_iload_n (pc := 66) E.1 E.2.1 dX12_readAny_66 rfl (lv_at hl319 1 rfl) ?_
              refine lv_if_eq (pc := 67) (tgt := 75) E.1 E.2.1 dX12_readAny_67 (by decide) (fun _ => ?_) (fun c_320 => absurd (meqE (a := 0) (b := 0) (by decide +kernel) (by decide +kernel) (by omega)) c_320)
              refine lv_bipush (pc := 75) (v := 12) E.1 E.2.1 dX12_readAny_75 (by decide +kernel) ?_
              refine cm_v (pc := 77) hw316 (rn_M (As := [.int 12]) (rest := []) E hw316 (s_waits2 l D cI cJ _ M mr (upd (upd (upd (upd (upd (upd (upd (upd (upd mi 22 x_10) 23 x_11) 24 x_12) 25 x_13) 34 x_14) 35 v_315) 37 x_17) 38 x_15) 39 x_16) (va_up (va_up (va_up mf 31 g_19) 32 g_20) 36 g_21) mg 12 (by show 0 ≤ x_17.toInt ∧ x_17.toInt ≤ 39; omega)) (gdV q_1794 q_1796 q_84 q_162 q_1797) hdV_X12_waits ⟨rfl, rfl⟩ ⟨(Nat.le_of_ble_eq_true rfl), (Nat.le_of_ble_eq_true rfl)⟩ ⟨(Nat.le_of_ble_eq_true rfl), (Nat.le_of_ble_eq_true rfl)⟩ 12 rfl rfl rfl rfl hl319.1 rfl (Nat.le_of_ble_eq_true rfl) dX12_readAny_77) (fun u_321 H1 locs hp hw323 => ?_)
              obtain ⟨gpending_324, npendings_325⟩ := u_321
              generalize H1 = H at hw323 ⊢
              have hw326 : WD D A s.heap (MW cI cJ M mr (upd (upd (upd (upd (upd (upd (upd (upd (upd mi 22 x_10) 23 x_11) 24 x_12) 25 x_13) 34 x_14) 35 v_315) 37 npendings_325) 38 x_15) 39 x_16) (va_up (va_up (va_up mf 31 g_19) 32 g_20) 36 gpending_324) mg) H locs := hw323
              obtain ⟨hp_327, hp_328⟩ := hp
              have hp_327 : npendings_325.toInt = x_17.toInt + 1 := hp_327
              have hp_328 : gpending_324 ((x_17.toInt).toNat) = (12 : Int32) ∧ ∀ j : Nat, j < (x_17.toInt).toNat → gpending_324 j = g_21 j := hp_328
              refine lv_aload_n (pc := 80) E.1 E.2.1 dX12_readAny_80 rfl (lv_at hl319 3 rfl) ?_
              refine cm_v (pc := 81) hw326 (rn_M (As := []) (rest := []) E hw326 (s_reads l D cI cJ _ M mr (upd (upd (upd (upd (upd (upd (upd (upd (upd mi 22 x_10) 23 x_11) 24 x_12) 25 x_13) 34 x_14) 35 v_315) 37 npendings_325) 38 x_15) 39 x_16) (va_up (va_up (va_up mf 31 g_19) 32 g_20) 36 gpending_324) mg (by show 0 ≤ x_10.toInt; omega) hi_21_2 h3 h7) (gdV q_1666 q_1668 q_52 q_162 q_1669) hdV_X12_reads ⟨rfl, rfl⟩ ⟨(Nat.le_of_ble_eq_true rfl), (Nat.le_of_ble_eq_true rfl)⟩ ⟨(Nat.le_of_ble_eq_true rfl), (Nat.le_of_ble_eq_true rfl)⟩ 12 rfl rfl rfl rfl hl319.1 rfl (Nat.le_of_ble_eq_true rfl) dX12_readAny_81) (fun u_329 H1 locs hp hw331 => ?_)
              obtain ⟨nspot_332, nfrom_333, ntoken_334, nvalue_335⟩ := u_329
              generalize H1 = H at hw331 ⊢
              have hw336 : WD D A s.heap (MW cI cJ M mr (upd (upd (upd (upd (upd (upd (upd (upd (upd mi 22 nspot_332) 23 nfrom_333) 24 ntoken_334) 25 nvalue_335) 34 x_14) 35 v_315) 37 npendings_325) 38 x_15) 39 x_16) (va_up (va_up (va_up mf 31 g_19) 32 g_20) 36 gpending_324) mg) H locs := hw331
              obtain ⟨hp_337, hp_338, hp_339, hp_340, hp_341, hp_342, hp_343⟩ := hp
              have hp_337 : 0 ≤ nfrom_333.toInt := hp_337
              have hp_338 : nfrom_333.toInt ≤ nspot_332.toInt := hp_338
              have hp_339 : nspot_332.toInt ≤ (mi 21).toInt := hp_339
              have hp_340 : 0 ≤ ntoken_334.toInt := hp_340
              have hp_341 : ntoken_334.toInt ≤ 4 := hp_341
              have hp_342 : ntoken_334.toInt ≤ 4 * nspot_332.toInt - 4 * nfrom_333.toInt := hp_342
              have hp_343 : x_10.toInt ≤ nfrom_333.toInt := hp_343
              refine lv_goto (pc := 84) (tgt := 9) E.1 E.2.1 dX12_readAny_84 (by decide) ?_
              have hra_344 : RA (mf 31) (mf 32) (800 + ((mi 34).toInt).toNat) g_19 g_20 (800 + (x_14.toInt).toNat) gpending_324 (npendings_325.toInt).toNat v_315.toInt v_318.toInt 0 := RA_pn (RA_open hra_257 hp_328.1 hp_328.2 (opn' := v_315.toInt) (br' := v_318.toInt) (by omega) (Or.inr ⟨rfl, by omega⟩)) (by omega) rfl rfl
              have hb_345 := RA_br hra_344
              have hb_345o : 0 ≤ v_315.toInt := hb_345.2.2
              have hb_345b : 0 ≤ v_318.toInt := hb_345.1
              have hb_345c : v_318.toInt ≤ npendings_325.toInt := by have q := hb_345.2.1; omega
              have hra_344p : npendings_325.toInt ≤ 26 := by have q := RA_pend hra_344 (by omega); omega
              exact ih_22 v_318 x_9 nspot_332 nfrom_333 ntoken_334 nvalue_335 x_14 x_15 x_16 npendings_325 v_315 g_19 g_20 gpending_324 _ _ _ ⟨hp_337, hp_338, hp_339, hp_340, hp_341, hp_342, hi_21_6, (by show 0 ≤ v_315.toInt; omega), (by show v_315.toInt ≤ 8; omega), (by show 0 ≤ npendings_325.toInt; omega), (by show npendings_325.toInt ≤ 26; omega), (by show 0 ≤ v_318.toInt; omega), (by show v_318.toInt ≤ npendings_325.toInt; omega), hi_21_13, hi_21_14, (by show (mi 23).toInt - (mi 34).toInt ≤ nfrom_333.toInt - x_14.toInt - npendings_325.toInt; omega), (by show (mi 23).toInt + 1 - x_9.toInt ≤ nfrom_333.toInt; omega), (RA_pn hra_344 rfl (by first | rfl | decide +kernel | omega) rfl), (fun h => absurd h (by omega)), (show LW 0 0 g_19 g_20 (mf 28) (mf 29) (mf 30) ((mf 27) 0).toInt 400 from hi_21_19), (show LW 16 400 g_19 g_20 (mf 28) (mf 29) (mf 30) ((mf 27) 1).toInt 400 from hi_21_20)⟩ (by omega) hw336 (lv_sub hl319 [2, 0, 3] rfl)
            · skip
              have hc_314 := eqE (a := x_18.toInt) (b := 8) rfl (by decide +kernel) c_314
              refine lv_aload_n (pc := 41) E.1 E.2.1 dX12_readAny_41 rfl (lv_at hl304 3 rfl) ?_
              refine lv_iconst (pc := 42) (v := 3) E.1 E.2.1 dX12_readAny_42 (by decide +kernel) ?_
              refine cm_i (pc := 43) hw309 (rn_M (As := [.int 3]) (rest := []) E hw309 (s_errs2 l D cI cJ _ M mr (upd (upd (upd (upd (upd (upd (upd (upd (upd mi 22 x_10) 23 x_11) 24 x_12) 25 x_13) 34 x_14) 35 x_18) 37 x_17) 38 x_15) 39 x_16) (va_up (va_up (va_up mf 31 g_19) 32 g_20) 36 g_21) mg 3) (gdV q_1698 q_1700 q_60 q_162 q_1701) hdV_X12_errs ⟨rfl, rfl⟩ ⟨(Nat.le_of_ble_eq_true rfl), (Nat.le_of_ble_eq_true rfl)⟩ ⟨(Nat.le_of_ble_eq_true rfl), (Nat.le_of_ble_eq_true rfl)⟩ 12 rfl rfl rfl rfl hl304.1 rfl (Nat.le_of_ble_eq_true rfl) dX12_readAny_43) (fun r_347 u_346 H1 locs hp hw348 => ?_)
              obtain ⟨nreadFault_349, nreadPlace_350⟩ := u_346
              generalize H1 = H at hw348 ⊢
              have hw351 : WD D A s.heap (MW cI cJ M mr (upd (upd (upd (upd (upd (upd (upd (upd (upd mi 22 x_10) 23 x_11) 24 x_12) 25 x_13) 34 x_14) 35 x_18) 37 x_17) 38 nreadFault_349) 39 nreadPlace_350) (va_up (va_up (va_up mf 31 g_19) 32 g_20) 36 g_21) mg) H locs := hw348
              have hp_352 := hp
              rcases hp_352 with rfl
              · skip
                exact em_i (w1 := (fun (u : Int32 × Int32 × Int32 × Int32 × (Nat → Int32) × (Nat → Int32) × Int32 × Int32 × Int32 × (Nat → Int32) × Int32 × Int32) => (MW cI cJ M mr (upd (upd (upd (upd (upd (upd (upd (upd (upd mi 22 u.1) 23 u.2.1) 24 u.2.2.1) 25 u.2.2.2.1) 34 u.2.2.2.2.2.2.1) 38 u.2.2.2.2.2.2.2.1) 39 u.2.2.2.2.2.2.2.2.1) 37 u.2.2.2.2.2.2.2.2.2.2.1) 35 u.2.2.2.2.2.2.2.2.2.2.2) (va_up (va_up (va_up mf 31 u.2.2.2.2.1) 32 u.2.2.2.2.2.1) 36 u.2.2.2.2.2.2.2.2.2.1) mg))) E hr hlk (x_10, x_11, x_12, x_13, g_19, g_20, x_14, nreadFault_349, nreadPlace_350, g_21, x_17, x_18) hw351 ⟨hi_21_0, hi_21_1, hi_21_2, hi_21_3, hi_21_4, hi_21_5, hi_21_6, (by show x_14.toInt ≤ x_11.toInt; have k_0 : ((-1) : Int32).toInt = -1 := (by decide +kernel); omega), hi_21_7, hi_21_8, hi_21_19, hi_21_20, (fun h => absurd h (by decide +kernel)), (Or.inl rfl)⟩ (Nat.le_of_ble_eq_true rfl) (Nat.le_of_ble_eq_true rfl) dX12_readAny_46
          · skip
            refine lv_if_eq (pc := 29) (tgt := 87) E.1 E.2.1 dX12_readAny_29 (by decide) (fun _ => ?_) (fun c_353 => absurd (meqE (a := 0) (b := 0) (by decide +kernel) (by decide +kernel) (by omega)) c_353)
            refine lv_aload_n (pc := 87) E.1 E.2.1 dX12_readAny_87 rfl (lv_at hl304 3 rfl) ?_
            refine cm_i (pc := 88) hw309 (rn_M (As := []) (rest := []) E hw309 (s_readCompared l D cI cJ _ M mr (upd (upd (upd (upd (upd (upd (upd (upd (upd mi 22 x_10) 23 x_11) 24 x_12) 25 x_13) 34 x_14) 35 x_18) 37 x_17) 38 x_15) 39 x_16) (va_up (va_up (va_up mf 31 g_19) 32 g_20) 36 g_21) mg hi_21_0 hi_21_1 hi_21_2 h3 hi_21_3 hi_21_4 hi_21_5 h7 hi_21_6 (by show x_14.toInt ≤ x_11.toInt; omega) (show LW 0 0 g_19 g_20 (mf 28) (mf 29) (mf 30) ((mf 27) 0).toInt 400 from hi_21_19) (show LW 16 400 g_19 g_20 (mf 28) (mf 29) (mf 30) ((mf 27) 1).toInt 400 from hi_21_20)) (gdV q_1798 q_1800 q_85 q_162 q_1801) hdV_X12_readCompared ⟨rfl, rfl⟩ ⟨(Nat.le_of_ble_eq_true rfl), (Nat.le_of_ble_eq_true rfl)⟩ ⟨(Nat.le_of_ble_eq_true rfl), (Nat.le_of_ble_eq_true rfl)⟩ 12 rfl rfl rfl rfl hl304.1 rfl (Nat.le_of_ble_eq_true rfl) dX12_readAny_88) (fun r_355 u_354 H1 locs hp hw356 => ?_)
            obtain ⟨nspot_357, nfrom_358, ntoken_359, nvalue_360, gop_361, garg_362, ncodes_363, nreadFault_364, nreadPlace_365⟩ := u_354
            generalize H1 = H at hw356 ⊢
            have hw366 : WD D A s.heap (MW cI cJ M mr (upd (upd (upd (upd (upd (upd (upd (upd (upd mi 22 nspot_357) 23 nfrom_358) 24 ntoken_359) 25 nvalue_360) 34 ncodes_363) 35 x_18) 37 x_17) 38 nreadFault_364) 39 nreadPlace_365) (va_up (va_up (va_up mf 31 gop_361) 32 garg_362) 36 g_21) mg) H locs := hw356
            obtain ⟨hp_367, hp_368, hp_369, hp_370, hp_371, hp_372, hp_373, hp_374, hp_375, hp_376, hp_377, hp_378⟩ := hp
            have hp_367 : 0 ≤ nfrom_358.toInt := hp_367
            have hp_368 : nfrom_358.toInt ≤ nspot_357.toInt := hp_368
            have hp_369 : nspot_357.toInt ≤ (mi 21).toInt := hp_369
            have hp_370 : 0 ≤ ntoken_359.toInt := hp_370
            have hp_371 : ntoken_359.toInt ≤ 4 := hp_371
            have hp_372 : ntoken_359.toInt ≤ 4 * nspot_357.toInt - 4 * nfrom_358.toInt := hp_372
            have hp_373 : 0 ≤ ncodes_363.toInt := hp_373
            have hp_374 : ncodes_363.toInt ≤ nfrom_358.toInt := hp_374
            have hp_375 : LW 0 0 gop_361 garg_362 (mf 28) (mf 29) (mf 30) ((mf 27) 0).toInt 400 := hp_375
            have hp_376 : LW 16 400 gop_361 garg_362 (mf 28) (mf 29) (mf 30) ((mf 27) 1).toInt 400 := hp_376
            have hp_377 : r_355 = 0 → TX g_19 g_20 (800 + (x_14.toInt).toNat) gop_361 garg_362 (800 + (ncodes_363.toInt).toNat) := hp_377
            rcases hp_378 with rfl | ⟨rfl, ha_379, ha_380⟩
            · skip
              refine lv_iconst (pc := 91) (v := (-1)) E.1 E.2.1 dX12_readAny_91 (by decide +kernel) ?_
              refine lv_icmp_ne (pc := 92) (tgt := 97) E.1 E.2.1 dX12_readAny_92 (by decide) (fun c_381 => absurd (meqE (a := (-1)) (b := (-1)) (by decide +kernel) (by decide +kernel) (by omega)) c_381) (fun _ => ?_)
              refine lv_iconst (pc := 95) (v := (-1)) E.1 E.2.1 dX12_readAny_95 (by decide +kernel) ?_
              exact em_i (w1 := (fun (u : Int32 × Int32 × Int32 × Int32 × (Nat → Int32) × (Nat → Int32) × Int32 × Int32 × Int32 × (Nat → Int32) × Int32 × Int32) => (MW cI cJ M mr (upd (upd (upd (upd (upd (upd (upd (upd (upd mi 22 u.1) 23 u.2.1) 24 u.2.2.1) 25 u.2.2.2.1) 34 u.2.2.2.2.2.2.1) 38 u.2.2.2.2.2.2.2.1) 39 u.2.2.2.2.2.2.2.2.1) 37 u.2.2.2.2.2.2.2.2.2.2.1) 35 u.2.2.2.2.2.2.2.2.2.2.2) (va_up (va_up (va_up mf 31 u.2.2.2.2.1) 32 u.2.2.2.2.2.1) 36 u.2.2.2.2.2.2.2.2.2.1) mg))) E hr hlk (nspot_357, nfrom_358, ntoken_359, nvalue_360, gop_361, garg_362, ncodes_363, nreadFault_364, nreadPlace_365, g_21, x_17, x_18) hw366 ⟨hp_367, hp_368, hp_369, hp_370, hp_371, hp_372, hp_373, hp_374, hi_21_7, hi_21_8, hp_375, hp_376, (fun h => absurd h (by decide +kernel)), (Or.inl rfl)⟩ (Nat.le_of_ble_eq_true rfl) (Nat.le_of_ble_eq_true rfl) dX12_readAny_96
            · skip
              have hp_377 := hp_377 rfl
              have ha_379 : x_11.toInt - x_14.toInt ≤ nfrom_358.toInt - ncodes_363.toInt := ha_379
              have ha_380 : x_11.toInt + 1 ≤ nfrom_358.toInt := ha_380
              refine lv_iconst (pc := 91) (v := (-1)) E.1 E.2.1 dX12_readAny_91 (by decide +kernel) ?_
              refine lv_icmp_ne (pc := 92) (tgt := 97) E.1 E.2.1 dX12_readAny_92 (by decide) (fun _ => ?_) (fun c_382 => absurd c_382 (mneE (a := 0) (b := (-1)) (by decide +kernel) (by decide +kernel) (by omega)))
              refine lv_aload_n (pc := 97) E.1 E.2.1 dX12_readAny_97 rfl (lv_at hl304 3 rfl) ?_
              refine lv_bipush (pc := 98) (v := 9) E.1 E.2.1 dX12_readAny_98 (by decide +kernel) ?_
              refine cm_v (pc := 100) hw366 (rn_M (As := [.int 9]) (rest := []) E hw366 (s_settles9 l D cI cJ _ M mr (upd (upd (upd (upd (upd (upd (upd (upd (upd mi 22 nspot_357) 23 nfrom_358) 24 ntoken_359) 25 nvalue_360) 34 ncodes_363) 35 x_18) 37 x_17) 38 nreadFault_364) 39 nreadPlace_365) (va_up (va_up (va_up mf 31 gop_361) 32 garg_362) 36 g_21) mg (by show 0 ≤ x_17.toInt ∧ x_17.toInt ≤ 40; omega) hp_373 (by show ncodes_363.toInt + x_17.toInt ≤ 400; omega) ⟨hi_21_7, hi_21_8⟩ (show LW 0 0 gop_361 garg_362 (mf 28) (mf 29) (mf 30) ((mf 27) 0).toInt 400 from hp_375) (show LW 16 400 gop_361 garg_362 (mf 28) (mf 29) (mf 30) ((mf 27) 1).toInt 400 from hp_376)) (gdV q_1802 q_1804 q_86 q_162 q_1805) hdV_X12_settles ⟨rfl, rfl⟩ ⟨(Nat.le_of_ble_eq_true rfl), (Nat.le_of_ble_eq_true rfl)⟩ ⟨(Nat.le_of_ble_eq_true rfl), (Nat.le_of_ble_eq_true rfl)⟩ 12 rfl rfl rfl rfl hl304.1 rfl (Nat.le_of_ble_eq_true rfl) dX12_readAny_100) (fun u_383 H1 locs hp hw385 => ?_)
              obtain ⟨npendings_386, gop_387, garg_388, ncodes_389, nopen_390⟩ := u_383
              generalize H1 = H at hw385 ⊢
              have hw391 : WD D A s.heap (MW cI cJ M mr (upd (upd (upd (upd (upd (upd (upd (upd (upd mi 22 nspot_357) 23 nfrom_358) 24 ntoken_359) 25 nvalue_360) 34 ncodes_389) 35 nopen_390) 37 npendings_386) 38 nreadFault_364) 39 nreadPlace_365) (va_up (va_up (va_up mf 31 gop_387) 32 garg_388) 36 g_21) mg) H locs := hw385
              obtain ⟨hp_392, hp_393, hp_394, hp_395, hp_396, hp_397, hp_398, hp_399, hp_400⟩ := hp
              have hp_392 : 0 ≤ npendings_386.toInt := hp_392
              have hp_393 : npendings_386.toInt ≤ x_17.toInt := hp_393
              have hp_394 : ncodes_389.toInt + npendings_386.toInt = ncodes_363.toInt + x_17.toInt := hp_394
              have hp_395 : 0 ≤ ncodes_389.toInt := hp_395
              have hp_396 : nopen_390.toInt = x_18.toInt - x_17.toInt + npendings_386.toInt := hp_396
              have hp_397 : LW 0 0 gop_387 garg_388 (mf 28) (mf 29) (mf 30) ((mf 27) 0).toInt 400 := hp_397
              have hp_398 : LW 16 400 gop_387 garg_388 (mf 28) (mf 29) (mf 30) ((mf 27) 1).toInt 400 := hp_398
              have hp_399 : SE (9 : Int32) g_21 (x_17.toInt).toNat gop_361 garg_362 (800 + (ncodes_363.toInt).toNat) (npendings_386.toInt).toNat gop_387 garg_388 (800 + (ncodes_389.toInt).toNat) := hp_399
              have hp_400 : NT (9 : Int32) g_21 (npendings_386.toInt).toNat := hp_400
              refine lv_iconst (pc := 103) (v := 0) E.1 E.2.1 dX12_readAny_103 (by decide +kernel) ?_
              refine lv_istore_n (pc := 104) (lv' := [(2, .int 0), (3, .int 0), (1, .int x_8), (0, .ref M)]) E.1 E.2.1 dX12_readAny_104 rfl hl304 (by decide) rfl (fun ls hl401 => ?_)
              refine lv_goto (pc := 105) (tgt := 9) E.1 E.2.1 dX12_readAny_105 (by decide) ?_
              have hra_402 : RA (mf 31) (mf 32) (800 + ((mi 34).toInt).toNat) gop_387 garg_388 (800 + (ncodes_389.toInt).toNat) g_21 (npendings_386.toInt).toNat nopen_390.toInt x_8.toInt 1 := RA_not (RA_told hra_257 hp_377) hp_399 (by omega)
              have hb_403 := RA_br hra_402
              have hb_403o : 0 ≤ nopen_390.toInt := hb_403.2.2
              have hb_403b : 0 ≤ x_8.toInt := hb_403.1
              have hb_403c : x_8.toInt ≤ npendings_386.toInt := by have q := hb_403.2.1; omega
              have hra_402p : npendings_386.toInt ≤ 26 := by have q := RA_pend hra_402 (by omega); omega
              exact ih_22 x_8 0 nspot_357 nfrom_358 ntoken_359 nvalue_360 ncodes_389 nreadFault_364 nreadPlace_365 npendings_386 nopen_390 gop_387 garg_388 g_21 _ _ _ ⟨hp_367, hp_368, hp_369, hp_370, hp_371, hp_372, hp_395, (by show 0 ≤ nopen_390.toInt; omega), (by show nopen_390.toInt ≤ 8; omega), hp_392, (by show npendings_386.toInt ≤ 26; omega), hi_21_11, (by show x_8.toInt ≤ npendings_386.toInt; omega), (by show 0 ≤ (0 : Int32).toInt; have k_0 : (0 : Int32).toInt = 0 := (by decide +kernel); omega), (by show (0 : Int32).toInt ≤ 1; have k_0 : (0 : Int32).toInt = 0 := (by decide +kernel); omega), (by show (mi 23).toInt - (mi 34).toInt ≤ nfrom_358.toInt - ncodes_389.toInt - npendings_386.toInt; omega), (by show (mi 23).toInt + 1 - (0 : Int32).toInt ≤ nfrom_358.toInt; have k_0 : (0 : Int32).toInt = 0 := (by decide +kernel); omega), (RA_pn hra_402 rfl (by first | rfl | decide +kernel | omega) rfl), (fun _ => hp_400), (show LW 0 0 gop_387 garg_388 (mf 28) (mf 29) (mf 30) ((mf 27) 0).toInt 400 from hp_397), (show LW 16 400 gop_387 garg_388 (mf 28) (mf 29) (mf 30) ((mf 27) 1).toInt 400 from hp_398)⟩ (by have k_0 : (0 : Int32).toInt = 0 := (by decide +kernel); omega) hw391 (lv_sub hl401 [0, 2, 3] rfl)
  exact loop_7 (Int.toNat (2 * (mi 21).toInt - 2 * (mi 23).toInt + 1) + 1) 0 1 (mi 22) (mi 23) (mi 24) (mi 25) (mi 34) (mi 38) (mi 39) 0 (mi 35) (mf 31) (mf 32) (mf 36) _ _ _ ⟨h0, h1, h2, h4, h5, h6, h8, h10.1, h10.2, (by show 0 ≤ (0 : Int32).toInt; have k_0 : (0 : Int32).toInt = 0 := (by decide +kernel); omega), (by show (0 : Int32).toInt ≤ 26; have k_0 : (0 : Int32).toInt = 0 := (by decide +kernel); omega), (by show 0 ≤ (0 : Int32).toInt; have k_0 : (0 : Int32).toInt = 0 := (by decide +kernel); omega), (by show (0 : Int32).toInt ≤ (0 : Int32).toInt; have k_0 : (0 : Int32).toInt = 0 := (by decide +kernel); omega), (by show 0 ≤ (1 : Int32).toInt; have k_0 : (1 : Int32).toInt = 1 := (by decide +kernel); omega), (by show (1 : Int32).toInt ≤ 1; have k_0 : (1 : Int32).toInt = 1 := (by decide +kernel); omega), (by show (mi 23).toInt - (mi 34).toInt ≤ (mi 23).toInt - (mi 34).toInt - (0 : Int32).toInt; have k_0 : (0 : Int32).toInt = 0 := (by decide +kernel); omega), (by show (mi 23).toInt + 1 - (1 : Int32).toInt ≤ (mi 23).toInt; have k_0 : (1 : Int32).toInt = 1 := (by decide +kernel); omega), (RA_pn (RA_nil (by omega)) (by decide +kernel) (by decide +kernel) (by decide +kernel)), (fun h => absurd h (by decide +kernel)), (show LW 0 0 (mf 31) (mf 32) (mf 28) (mf 29) (mf 30) ((mf 27) 0).toInt 400 from lf_law0), (show LW 16 400 (mf 31) (mf 32) (mf 28) (mf 29) (mf 30) ((mf 27) 1).toInt 400 from lf_law1)⟩ (by have k_0 : (0 : Int32).toInt = 0 := (by decide +kernel); have k_1 : (1 : Int32).toInt = 1 := (by decide +kernel); have k_9 : (0 : Int32).toInt = 0 := (by decide +kernel); omega) hw5 (lv_sub hl6 [0, 1, 2] rfl)
