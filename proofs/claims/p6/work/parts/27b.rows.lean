set_option maxHeartbeats 4000000 in
set_option maxRecDepth 100000 in
theorem s_isLetter2 (l : Launch) (D : va_G) (cI cJ : ClassId) (sz M : Nat) (mr : Nat → Nat) (mi : Nat → Int32) (mf : Nat → Nat → Int32) (mg : Nat → Nat → Int64) (z_c : Int32)  : Met l yX12_isLetter (Cond.code yX12_isLetter cX12_isLetter 2 (some .boolean) :: GW) ({ frames := 2, cells := 0, slots := 0, locals := 63 } : Room) (va_Pc [.ref M, .int z_c] (PW D cI cJ sz (MW cI cJ M mr mi mf mg) xT)) (va_Qi (fun (r : Int32) (u : Unit) => ((r = 1 ∧ 65 ≤ z_c.toInt ∧ z_c.toInt ≤ 122) ∨ (r = 0))) (fun u => QW D cI cJ (va_A (MW cI cJ M mr mi mf mg) sz) ((fun (u : Unit) => (MW cI cJ M mr mi mf mg)) u)) (va_A (MW cI cJ M mr mi mf mg) sz)) 0 0 (va_A (MW cI cJ M mr mi mf mg) sz) := by
  refine mk_met (y := yX12_isLetter) (bytes := cX12_isLetter) (maxL := 2) (avs := [.ref M, .int z_c]) (WS := (MW cI cJ M mr mi mf mg)) (Qf := fun A => va_Qi (fun (r : Int32) (u : Unit) => ((r = 1 ∧ 65 ≤ z_c.toInt ∧ z_c.toInt ≤ 122) ∨ (r = 0))) (fun u => QW D cI cJ A ((fun (u : Unit) => (MW cI cJ M mr mi mf mg)) u)) A) (by decide) (Nat.le_of_ble_eq_true rfl) ?_
  intro p e s m below meth c A ls E hr hlk hnm hX hw1 hl2
  have hl3 : lv_has ls 2 [(0, .ref M), (1, .int z_c)] := hl2
  refine lv_aload_n (pc := 0) E.1 E.2.1 dX12_isLetter_0 rfl (lv_at hl3 0 rfl) ?_
  refine lv_iload_n (pc := 1) E.1 E.2.1 dX12_isLetter_1 rfl (lv_at hl3 1 rfl) ?_
  refine lv_bipush (pc := 2) (v := 97) E.1 E.2.1 dX12_isLetter_2 (by decide +kernel) ?_
  refine lv_bipush (pc := 4) (v := 122) E.1 E.2.1 dX12_isLetter_4 (by decide +kernel) ?_
  refine cm_i (pc := 6) hw1 (rn_M (As := [.int z_c, .int 97, .int 122]) (rest := []) E hw1 (s_isIn l D cI cJ _ M mr mi mf mg z_c 97 122) (gdV q_1622 q_1624 q_46 q_162 q_1625) hdV_X12_isIn ⟨rfl, rfl⟩ ⟨(Nat.le_of_ble_eq_true rfl), (Nat.le_of_ble_eq_true rfl)⟩ ⟨(Nat.le_of_ble_eq_true rfl), (Nat.le_of_ble_eq_true rfl)⟩ 12 rfl rfl rfl rfl hl3.1 rfl (Nat.le_of_ble_eq_true rfl) dX12_isLetter_6) (fun r_5 u_4 H1 locs hp hw6 => ?_)
  generalize H1 = H at hw6 ⊢
  have hw7 : WD D A s.heap (MW cI cJ M mr mi mf mg) H locs := hw6
  have hp_8 := hp
  rcases hp_8 with ⟨rfl, ha_9⟩ | ⟨rfl, ha_10⟩ | ⟨rfl, ha_11, ha_12⟩
  · skip
    have ha_9 : z_c.toInt < (97 : Int32).toInt := ha_9
    rw [show (97 : Int32).toInt = 97 from by decide +kernel] at ha_9
    refine lv_if_ne (pc := 9) (tgt := 24) E.1 E.2.1 dX12_isLetter_9 (by decide) (fun c_13 => absurd (meqE (a := 0) (b := 0) (by decide +kernel) (by decide +kernel) (by omega)) c_13) (fun _ => ?_)
    refine lv_aload_n (pc := 12) E.1 E.2.1 dX12_isLetter_12 rfl (lv_at hl3 0 rfl) ?_
    refine lv_iload_n (pc := 13) E.1 E.2.1 dX12_isLetter_13 rfl (lv_at hl3 1 rfl) ?_
    refine lv_bipush (pc := 14) (v := 65) E.1 E.2.1 dX12_isLetter_14 (by decide +kernel) ?_
    refine lv_bipush (pc := 16) (v := 90) E.1 E.2.1 dX12_isLetter_16 (by decide +kernel) ?_
    refine cm_i (pc := 18) hw7 (rn_M (As := [.int z_c, .int 65, .int 90]) (rest := []) E hw7 (s_isIn l D cI cJ _ M mr mi mf mg z_c 65 90) (gdV q_1622 q_1624 q_46 q_162 q_1625) hdV_X12_isIn ⟨rfl, rfl⟩ ⟨(Nat.le_of_ble_eq_true rfl), (Nat.le_of_ble_eq_true rfl)⟩ ⟨(Nat.le_of_ble_eq_true rfl), (Nat.le_of_ble_eq_true rfl)⟩ 12 rfl rfl rfl rfl hl3.1 rfl (Nat.le_of_ble_eq_true rfl) dX12_isLetter_18) (fun r_15 u_14 H1 locs hp hw16 => ?_)
    generalize H1 = H at hw16 ⊢
    have hw17 : WD D A s.heap (MW cI cJ M mr mi mf mg) H locs := hw16
    have hp_18 := hp
    rcases hp_18 with ⟨rfl, ha_19⟩ | ⟨rfl, ha_20⟩ | ⟨rfl, ha_21, ha_22⟩
    · skip
      have ha_19 : z_c.toInt < (65 : Int32).toInt := ha_19
      rw [show (65 : Int32).toInt = 65 from by decide +kernel] at ha_19
      refine lv_if_eq (pc := 21) (tgt := 28) E.1 E.2.1 dX12_isLetter_21 (by decide) (fun _ => ?_) (fun c_23 => absurd (meqE (a := 0) (b := 0) (by decide +kernel) (by decide +kernel) (by omega)) c_23)
      refine lv_iconst (pc := 28) (v := 0) E.1 E.2.1 dX12_isLetter_28 (by decide +kernel) ?_
      exact em_z (w1 := (fun (u : Unit) => (MW cI cJ M mr mi mf mg))) E hr hlk () hw17 (Or.inr (rfl)) (by decide +kernel) (Nat.le_of_ble_eq_true rfl) (Nat.le_of_ble_eq_true rfl) dX12_isLetter_29
    · skip
      have ha_20 : (90 : Int32).toInt < z_c.toInt := ha_20
      rw [show (90 : Int32).toInt = 90 from by decide +kernel] at ha_20
      refine lv_if_eq (pc := 21) (tgt := 28) E.1 E.2.1 dX12_isLetter_21 (by decide) (fun _ => ?_) (fun c_24 => absurd (meqE (a := 0) (b := 0) (by decide +kernel) (by decide +kernel) (by omega)) c_24)
      refine lv_iconst (pc := 28) (v := 0) E.1 E.2.1 dX12_isLetter_28 (by decide +kernel) ?_
      exact em_z (w1 := (fun (u : Unit) => (MW cI cJ M mr mi mf mg))) E hr hlk () hw17 (Or.inr (rfl)) (by decide +kernel) (Nat.le_of_ble_eq_true rfl) (Nat.le_of_ble_eq_true rfl) dX12_isLetter_29
    · skip
      have ha_21 : (65 : Int32).toInt ≤ z_c.toInt := ha_21
      rw [show (65 : Int32).toInt = 65 from by decide +kernel] at ha_21
      have ha_22 : z_c.toInt ≤ (90 : Int32).toInt := ha_22
      rw [show (90 : Int32).toInt = 90 from by decide +kernel] at ha_22
      refine lv_if_eq (pc := 21) (tgt := 28) E.1 E.2.1 dX12_isLetter_21 (by decide) (fun c_25 => absurd c_25 (mneE (a := 1) (b := 0) (by decide +kernel) (by decide +kernel) (by omega))) (fun _ => ?_)
      refine lv_iconst (pc := 24) (v := 1) E.1 E.2.1 dX12_isLetter_24 (by decide +kernel) ?_
      refine lv_goto (pc := 25) (tgt := 29) E.1 E.2.1 dX12_isLetter_25 (by decide) ?_
      exact em_z (w1 := (fun (u : Unit) => (MW cI cJ M mr mi mf mg))) E hr hlk () hw17 (Or.inl ⟨rfl, (by show 65 ≤ z_c.toInt; omega), (by show z_c.toInt ≤ 122; omega)⟩) (by decide +kernel) (Nat.le_of_ble_eq_true rfl) (Nat.le_of_ble_eq_true rfl) dX12_isLetter_29
  · skip
    have ha_10 : (122 : Int32).toInt < z_c.toInt := ha_10
    rw [show (122 : Int32).toInt = 122 from by decide +kernel] at ha_10
    refine lv_if_ne (pc := 9) (tgt := 24) E.1 E.2.1 dX12_isLetter_9 (by decide) (fun c_26 => absurd (meqE (a := 0) (b := 0) (by decide +kernel) (by decide +kernel) (by omega)) c_26) (fun _ => ?_)
    refine lv_aload_n (pc := 12) E.1 E.2.1 dX12_isLetter_12 rfl (lv_at hl3 0 rfl) ?_
    refine lv_iload_n (pc := 13) E.1 E.2.1 dX12_isLetter_13 rfl (lv_at hl3 1 rfl) ?_
    refine lv_bipush (pc := 14) (v := 65) E.1 E.2.1 dX12_isLetter_14 (by decide +kernel) ?_
    refine lv_bipush (pc := 16) (v := 90) E.1 E.2.1 dX12_isLetter_16 (by decide +kernel) ?_
    refine cm_i (pc := 18) hw7 (rn_M (As := [.int z_c, .int 65, .int 90]) (rest := []) E hw7 (s_isIn l D cI cJ _ M mr mi mf mg z_c 65 90) (gdV q_1622 q_1624 q_46 q_162 q_1625) hdV_X12_isIn ⟨rfl, rfl⟩ ⟨(Nat.le_of_ble_eq_true rfl), (Nat.le_of_ble_eq_true rfl)⟩ ⟨(Nat.le_of_ble_eq_true rfl), (Nat.le_of_ble_eq_true rfl)⟩ 12 rfl rfl rfl rfl hl3.1 rfl (Nat.le_of_ble_eq_true rfl) dX12_isLetter_18) (fun r_28 u_27 H1 locs hp hw29 => ?_)
    generalize H1 = H at hw29 ⊢
    have hw30 : WD D A s.heap (MW cI cJ M mr mi mf mg) H locs := hw29
    have hp_31 := hp
    rcases hp_31 with ⟨rfl, ha_32⟩ | ⟨rfl, ha_33⟩ | ⟨rfl, ha_34, ha_35⟩
    · skip
      have ha_32 : z_c.toInt < (65 : Int32).toInt := ha_32
      rw [show (65 : Int32).toInt = 65 from by decide +kernel] at ha_32
      exfalso; omega
    · skip
      have ha_33 : (90 : Int32).toInt < z_c.toInt := ha_33
      rw [show (90 : Int32).toInt = 90 from by decide +kernel] at ha_33
      refine lv_if_eq (pc := 21) (tgt := 28) E.1 E.2.1 dX12_isLetter_21 (by decide) (fun _ => ?_) (fun c_36 => absurd (meqE (a := 0) (b := 0) (by decide +kernel) (by decide +kernel) (by omega)) c_36)
      refine lv_iconst (pc := 28) (v := 0) E.1 E.2.1 dX12_isLetter_28 (by decide +kernel) ?_
      exact em_z (w1 := (fun (u : Unit) => (MW cI cJ M mr mi mf mg))) E hr hlk () hw30 (Or.inr (rfl)) (by decide +kernel) (Nat.le_of_ble_eq_true rfl) (Nat.le_of_ble_eq_true rfl) dX12_isLetter_29
    · skip
      have ha_34 : (65 : Int32).toInt ≤ z_c.toInt := ha_34
      rw [show (65 : Int32).toInt = 65 from by decide +kernel] at ha_34
      have ha_35 : z_c.toInt ≤ (90 : Int32).toInt := ha_35
      rw [show (90 : Int32).toInt = 90 from by decide +kernel] at ha_35
      exfalso; omega
  · skip
    have ha_11 : (97 : Int32).toInt ≤ z_c.toInt := ha_11
    rw [show (97 : Int32).toInt = 97 from by decide +kernel] at ha_11
    have ha_12 : z_c.toInt ≤ (122 : Int32).toInt := ha_12
    rw [show (122 : Int32).toInt = 122 from by decide +kernel] at ha_12
    refine lv_if_ne (pc := 9) (tgt := 24) E.1 E.2.1 dX12_isLetter_9 (by decide) (fun _ => ?_) (fun c_37 => absurd c_37 (mneE (a := 1) (b := 0) (by decide +kernel) (by decide +kernel) (by omega)))
    refine lv_iconst (pc := 24) (v := 1) E.1 E.2.1 dX12_isLetter_24 (by decide +kernel) ?_
    refine lv_goto (pc := 25) (tgt := 29) E.1 E.2.1 dX12_isLetter_25 (by decide) ?_
    exact em_z (w1 := (fun (u : Unit) => (MW cI cJ M mr mi mf mg))) E hr hlk () hw7 (Or.inl ⟨rfl, (by show 65 ≤ z_c.toInt; omega), (by show z_c.toInt ≤ 122; omega)⟩) (by decide +kernel) (Nat.le_of_ble_eq_true rfl) (Nat.le_of_ble_eq_true rfl) dX12_isLetter_29

set_option maxHeartbeats 4000000 in
set_option maxRecDepth 100000 in
theorem s_isDigit2 (l : Launch) (D : va_G) (cI cJ : ClassId) (sz M : Nat) (mr : Nat → Nat) (mi : Nat → Int32) (mf : Nat → Nat → Int32) (mg : Nat → Nat → Int64) (z_c : Int32)  : Met l yX12_isDigit (Cond.code yX12_isDigit cX12_isDigit 2 (some .boolean) :: GW) ({ frames := 2, cells := 0, slots := 0, locals := 63 } : Room) (va_Pc [.ref M, .int z_c] (PW D cI cJ sz (MW cI cJ M mr mi mf mg) xT)) (va_Qi (fun (r : Int32) (u : Unit) => ((r = 1 ∧ 48 ≤ z_c.toInt ∧ z_c.toInt ≤ 57) ∨ (r = 0))) (fun u => QW D cI cJ (va_A (MW cI cJ M mr mi mf mg) sz) ((fun (u : Unit) => (MW cI cJ M mr mi mf mg)) u)) (va_A (MW cI cJ M mr mi mf mg) sz)) 0 0 (va_A (MW cI cJ M mr mi mf mg) sz) := by
  refine mk_met (y := yX12_isDigit) (bytes := cX12_isDigit) (maxL := 2) (avs := [.ref M, .int z_c]) (WS := (MW cI cJ M mr mi mf mg)) (Qf := fun A => va_Qi (fun (r : Int32) (u : Unit) => ((r = 1 ∧ 48 ≤ z_c.toInt ∧ z_c.toInt ≤ 57) ∨ (r = 0))) (fun u => QW D cI cJ A ((fun (u : Unit) => (MW cI cJ M mr mi mf mg)) u)) A) (by decide) (Nat.le_of_ble_eq_true rfl) ?_
  intro p e s m below meth c A ls E hr hlk hnm hX hw1 hl2
  have hl3 : lv_has ls 2 [(0, .ref M), (1, .int z_c)] := hl2
  refine lv_aload_n (pc := 0) E.1 E.2.1 dX12_isDigit_0 rfl (lv_at hl3 0 rfl) ?_
  refine lv_iload_n (pc := 1) E.1 E.2.1 dX12_isDigit_1 rfl (lv_at hl3 1 rfl) ?_
  refine lv_bipush (pc := 2) (v := 48) E.1 E.2.1 dX12_isDigit_2 (by decide +kernel) ?_
  refine lv_bipush (pc := 4) (v := 57) E.1 E.2.1 dX12_isDigit_4 (by decide +kernel) ?_
  refine cm_i (pc := 6) hw1 (rn_M (As := [.int z_c, .int 48, .int 57]) (rest := []) E hw1 (s_isIn l D cI cJ _ M mr mi mf mg z_c 48 57) (gdV q_1622 q_1624 q_46 q_162 q_1625) hdV_X12_isIn ⟨rfl, rfl⟩ ⟨(Nat.le_of_ble_eq_true rfl), (Nat.le_of_ble_eq_true rfl)⟩ ⟨(Nat.le_of_ble_eq_true rfl), (Nat.le_of_ble_eq_true rfl)⟩ 12 rfl rfl rfl rfl hl3.1 rfl (Nat.le_of_ble_eq_true rfl) dX12_isDigit_6) (fun r_5 u_4 H1 locs hp hw6 => ?_)
  generalize H1 = H at hw6 ⊢
  have hw7 : WD D A s.heap (MW cI cJ M mr mi mf mg) H locs := hw6
  have hp_8 := hp
  rcases hp_8 with ⟨rfl, ha_9⟩ | ⟨rfl, ha_10⟩ | ⟨rfl, ha_11, ha_12⟩
  · skip
    have ha_9 : z_c.toInt < (48 : Int32).toInt := ha_9
    rw [show (48 : Int32).toInt = 48 from by decide +kernel] at ha_9
    exact em_z (w1 := (fun (u : Unit) => (MW cI cJ M mr mi mf mg))) E hr hlk () hw7 (Or.inr (rfl)) (by decide +kernel) (Nat.le_of_ble_eq_true rfl) (Nat.le_of_ble_eq_true rfl) dX12_isDigit_9
  · skip
    have ha_10 : (57 : Int32).toInt < z_c.toInt := ha_10
    rw [show (57 : Int32).toInt = 57 from by decide +kernel] at ha_10
    exact em_z (w1 := (fun (u : Unit) => (MW cI cJ M mr mi mf mg))) E hr hlk () hw7 (Or.inr (rfl)) (by decide +kernel) (Nat.le_of_ble_eq_true rfl) (Nat.le_of_ble_eq_true rfl) dX12_isDigit_9
  · skip
    have ha_11 : (48 : Int32).toInt ≤ z_c.toInt := ha_11
    rw [show (48 : Int32).toInt = 48 from by decide +kernel] at ha_11
    have ha_12 : z_c.toInt ≤ (57 : Int32).toInt := ha_12
    rw [show (57 : Int32).toInt = 57 from by decide +kernel] at ha_12
    exact em_z (w1 := (fun (u : Unit) => (MW cI cJ M mr mi mf mg))) E hr hlk () hw7 (Or.inl ⟨rfl, (by show 48 ≤ z_c.toInt; omega), (by show z_c.toInt ≤ 57; omega)⟩) (by decide +kernel) (Nat.le_of_ble_eq_true rfl) (Nat.le_of_ble_eq_true rfl) dX12_isDigit_9

set_option maxHeartbeats 4000000 in
set_option maxRecDepth 100000 in
theorem s_raw3 (l : Launch) (D : va_G) (cI cJ : ClassId) (sz M : Nat) (mr : Nat → Nat) (mi : Nat → Int32) (mf : Nat → Nat → Int32) (mg : Nat → Nat → Int64) (z_k : Int32) (h0 : 0 ≤ z_k.toInt) (h1 : 0 ≤ (mi 21).toInt ∧ (mi 21).toInt ≤ 400) : Met l yX12_raw (Cond.code yX12_raw cX12_raw 2 (some .int) :: GW) ({ frames := 1, cells := 0, slots := 0, locals := 40 } : Room) (va_Pc [.ref M, .int z_k] (PW D cI cJ sz (MW cI cJ M mr mi mf mg) xT)) (va_Qi (fun (r : Int32) (u : Unit) => ((z_k).toInt < (mi 21).toInt → r = (mf 20) (z_k).toNatClampNeg) ∧ (((mi 21).toInt ≤ z_k.toInt ∧ r.toInt = (-1)) ∨ (z_k.toInt ≤ (mi 21).toInt - 1))) (fun u => QW D cI cJ (va_A (MW cI cJ M mr mi mf mg) sz) ((fun (u : Unit) => (MW cI cJ M mr mi mf mg)) u)) (va_A (MW cI cJ M mr mi mf mg) sz)) 0 0 (va_A (MW cI cJ M mr mi mf mg) sz) := by
  refine mk_met (y := yX12_raw) (bytes := cX12_raw) (maxL := 2) (avs := [.ref M, .int z_k]) (WS := (MW cI cJ M mr mi mf mg)) (Qf := fun A => va_Qi (fun (r : Int32) (u : Unit) => ((z_k).toInt < (mi 21).toInt → r = (mf 20) (z_k).toNatClampNeg) ∧ (((mi 21).toInt ≤ z_k.toInt ∧ r.toInt = (-1)) ∨ (z_k.toInt ≤ (mi 21).toInt - 1))) (fun u => QW D cI cJ A ((fun (u : Unit) => (MW cI cJ M mr mi mf mg)) u)) A) (by decide) (Nat.le_of_ble_eq_true rfl) ?_
  intro p e s m below meth c A ls E hr hlk hnm hX hw1 hl2
  have hl3 : lv_has ls 2 [(0, .ref M), (1, .int z_k)] := hl2
  refine lv_iload_n (pc := 0) E.1 E.2.1 dX12_raw_0 rfl (lv_at hl3 1 rfl) ?_
  refine lv_aload_n (pc := 1) E.1 E.2.1 dX12_raw_1 rfl (lv_at hl3 0 rfl) ?_
  refine x_get (pc := 2) (T := TX12) (N := 70) (ci := 12) (v := .int (mi 21)) E hw1 inX12 0 21 q_1420 rfl rfl (by decide) rfl rfl dX12_raw_2 ?_
  refine lv_icmp_ge (pc := 5) (tgt := 17) E.1 E.2.1 dX12_raw_5 (by decide) (fun c_4 => ?_) (fun c_4 => ?_)
  · skip
    have hc_4 := leE (a := (mi 21).toInt) (b := z_k.toInt) rfl rfl c_4
    refine lv_iconst (pc := 17) (v := (-1)) E.1 E.2.1 dX12_raw_17 (by decide +kernel) ?_
    exact em_i (w1 := (fun (u : Unit) => (MW cI cJ M mr mi mf mg))) E hr hlk () hw1 ⟨(show (z_k).toInt < (mi 21).toInt → (-1) = (mf 20) (z_k).toNatClampNeg from (fun h => absurd h (by omega))), (Or.inl ⟨(by show (mi 21).toInt ≤ z_k.toInt; omega), (by show ((-1) : Int32).toInt = (-1); have k_0 : ((-1) : Int32).toInt = -1 := (by decide +kernel); omega)⟩)⟩ (Nat.le_of_ble_eq_true rfl) (Nat.le_of_ble_eq_true rfl) dX12_raw_18
  · skip
    have hc_4 := nleE (a := (mi 21).toInt) (b := z_k.toInt) rfl rfl c_4
    refine lv_aload_n (pc := 8) E.1 E.2.1 dX12_raw_8 rfl (lv_at hl3 0 rfl) ?_
    refine x_get (pc := 9) (T := TX12) (N := 70) (ci := 12) (v := .ref (mr 20)) E hw1 inX12 0 20 q_1419 rfl rfl (by decide) rfl rfl dX12_raw_9 ?_
    refine lv_iload_n (pc := 12) E.1 E.2.1 dX12_raw_12 rfl (lv_at hl3 1 rfl) ?_
    refine x_iald (pc := 13) (f := (mf 20)) E hw1 12 rfl (inbE (a := z_k.toInt) rfl (by omega)) dX12_raw_13 ?_
    refine lv_topi (fun v_5 ev_5 => ?_)
    refine lv_goto (pc := 14) (tgt := 18) E.1 E.2.1 dX12_raw_14 (by decide) ?_
    exact em_i (w1 := (fun (u : Unit) => (MW cI cJ M mr mi mf mg))) E hr hlk () hw1 ⟨(show (z_k).toInt < (mi 21).toInt → v_5 = (mf 20) (z_k).toNatClampNeg from (fun _ => ev_5)), (Or.inr ((by show z_k.toInt ≤ (mi 21).toInt - 1; omega)))⟩ (Nat.le_of_ble_eq_true rfl) (Nat.le_of_ble_eq_true rfl) dX12_raw_18

set_option maxHeartbeats 4000000 in
set_option maxRecDepth 100000 in
theorem s_isWord2 (l : Launch) (D : va_G) (cI cJ : ClassId) (sz M : Nat) (mr : Nat → Nat) (mi : Nat → Int32) (mf : Nat → Nat → Int32) (mg : Nat → Nat → Int64) (z_w : Int32)  : Met l yX12_isWord (Cond.code yX12_isWord cX12_isWord 2 (some .boolean) :: GW) ({ frames := 1, cells := 0, slots := 0, locals := 40 } : Room) (va_Pc [.ref M, .int z_w] (PW D cI cJ sz (MW cI cJ M mr mi mf mg) xT)) (va_Qi (fun (r : Int32) (u : Unit) => ((r = 1 ∧ (mi 24).toInt = 2 ∧ (mi 25).toInt = z_w.toInt) ∨ (r = 0))) (fun u => QW D cI cJ (va_A (MW cI cJ M mr mi mf mg) sz) ((fun (u : Unit) => (MW cI cJ M mr mi mf mg)) u)) (va_A (MW cI cJ M mr mi mf mg) sz)) 0 0 (va_A (MW cI cJ M mr mi mf mg) sz) := by
  refine mk_met (y := yX12_isWord) (bytes := cX12_isWord) (maxL := 2) (avs := [.ref M, .int z_w]) (WS := (MW cI cJ M mr mi mf mg)) (Qf := fun A => va_Qi (fun (r : Int32) (u : Unit) => ((r = 1 ∧ (mi 24).toInt = 2 ∧ (mi 25).toInt = z_w.toInt) ∨ (r = 0))) (fun u => QW D cI cJ A ((fun (u : Unit) => (MW cI cJ M mr mi mf mg)) u)) A) (by decide) (Nat.le_of_ble_eq_true rfl) ?_
  intro p e s m below meth c A ls E hr hlk hnm hX hw1 hl2
  have hl3 : lv_has ls 2 [(0, .ref M), (1, .int z_w)] := hl2
  refine lv_aload_n (pc := 0) E.1 E.2.1 dX12_isWord_0 rfl (lv_at hl3 0 rfl) ?_
  refine x_get (pc := 1) (T := TX12) (N := 70) (ci := 12) (v := .int (mi 24)) E hw1 inX12 0 24 q_1423 rfl rfl (by decide) rfl rfl dX12_isWord_1 ?_
  refine lv_iconst (pc := 4) (v := 2) E.1 E.2.1 dX12_isWord_4 (by decide +kernel) ?_
  refine lv_icmp_ne (pc := 5) (tgt := 20) E.1 E.2.1 dX12_isWord_5 (by decide) (fun c_4 => ?_) (fun c_4 => ?_)
  · skip
    have hc_4 := neE (a := (mi 24).toInt) (b := 2) rfl (by decide +kernel) c_4
    refine lv_iconst (pc := 20) (v := 0) E.1 E.2.1 dX12_isWord_20 (by decide +kernel) ?_
    exact em_z (w1 := (fun (u : Unit) => (MW cI cJ M mr mi mf mg))) E hr hlk () hw1 (Or.inr (rfl)) (by decide +kernel) (Nat.le_of_ble_eq_true rfl) (Nat.le_of_ble_eq_true rfl) dX12_isWord_21
  · skip
    have hc_4 := eqE (a := (mi 24).toInt) (b := 2) rfl (by decide +kernel) c_4
    refine lv_aload_n (pc := 8) E.1 E.2.1 dX12_isWord_8 rfl (lv_at hl3 0 rfl) ?_
    refine x_get (pc := 9) (T := TX12) (N := 70) (ci := 12) (v := .int (mi 25)) E hw1 inX12 0 25 q_1424 rfl rfl (by decide) rfl rfl dX12_isWord_9 ?_
    refine lv_iload_n (pc := 12) E.1 E.2.1 dX12_isWord_12 rfl (lv_at hl3 1 rfl) ?_
    refine lv_icmp_ne (pc := 13) (tgt := 20) E.1 E.2.1 dX12_isWord_13 (by decide) (fun c_5 => ?_) (fun c_5 => ?_)
    · skip
      have hc_5 := neE (a := (mi 25).toInt) (b := z_w.toInt) rfl rfl c_5
      refine lv_iconst (pc := 20) (v := 0) E.1 E.2.1 dX12_isWord_20 (by decide +kernel) ?_
      exact em_z (w1 := (fun (u : Unit) => (MW cI cJ M mr mi mf mg))) E hr hlk () hw1 (Or.inr (rfl)) (by decide +kernel) (Nat.le_of_ble_eq_true rfl) (Nat.le_of_ble_eq_true rfl) dX12_isWord_21
    · skip
      have hc_5 := eqE (a := (mi 25).toInt) (b := z_w.toInt) rfl rfl c_5
      refine lv_iconst (pc := 16) (v := 1) E.1 E.2.1 dX12_isWord_16 (by decide +kernel) ?_
      refine lv_goto (pc := 17) (tgt := 21) E.1 E.2.1 dX12_isWord_17 (by decide) ?_
      exact em_z (w1 := (fun (u : Unit) => (MW cI cJ M mr mi mf mg))) E hr hlk () hw1 (Or.inl ⟨rfl, (by show (mi 24).toInt = 2; omega), (by show (mi 25).toInt = z_w.toInt; omega)⟩) (by decide +kernel) (Nat.le_of_ble_eq_true rfl) (Nat.le_of_ble_eq_true rfl) dX12_isWord_21

set_option maxHeartbeats 4000000 in
set_option maxRecDepth 100000 in
theorem s_isSign2 (l : Launch) (D : va_G) (cI cJ : ClassId) (sz M : Nat) (mr : Nat → Nat) (mi : Nat → Int32) (mf : Nat → Nat → Int32) (mg : Nat → Nat → Int64) (z_c : Int32)  : Met l yX12_isSign (Cond.code yX12_isSign cX12_isSign 2 (some .boolean) :: GW) ({ frames := 1, cells := 0, slots := 0, locals := 40 } : Room) (va_Pc [.ref M, .int z_c] (PW D cI cJ sz (MW cI cJ M mr mi mf mg) xT)) (va_Qi (fun (r : Int32) (u : Unit) => ((r = 1 ∧ (mi 24).toInt = 4 ∧ (mi 25).toInt = z_c.toInt) ∨ (r = 0))) (fun u => QW D cI cJ (va_A (MW cI cJ M mr mi mf mg) sz) ((fun (u : Unit) => (MW cI cJ M mr mi mf mg)) u)) (va_A (MW cI cJ M mr mi mf mg) sz)) 0 0 (va_A (MW cI cJ M mr mi mf mg) sz) := by
  refine mk_met (y := yX12_isSign) (bytes := cX12_isSign) (maxL := 2) (avs := [.ref M, .int z_c]) (WS := (MW cI cJ M mr mi mf mg)) (Qf := fun A => va_Qi (fun (r : Int32) (u : Unit) => ((r = 1 ∧ (mi 24).toInt = 4 ∧ (mi 25).toInt = z_c.toInt) ∨ (r = 0))) (fun u => QW D cI cJ A ((fun (u : Unit) => (MW cI cJ M mr mi mf mg)) u)) A) (by decide) (Nat.le_of_ble_eq_true rfl) ?_
  intro p e s m below meth c A ls E hr hlk hnm hX hw1 hl2
  have hl3 : lv_has ls 2 [(0, .ref M), (1, .int z_c)] := hl2
  refine lv_aload_n (pc := 0) E.1 E.2.1 dX12_isSign_0 rfl (lv_at hl3 0 rfl) ?_
  refine x_get (pc := 1) (T := TX12) (N := 70) (ci := 12) (v := .int (mi 24)) E hw1 inX12 0 24 q_1423 rfl rfl (by decide) rfl rfl dX12_isSign_1 ?_
  refine lv_iconst (pc := 4) (v := 4) E.1 E.2.1 dX12_isSign_4 (by decide +kernel) ?_
  refine lv_icmp_ne (pc := 5) (tgt := 20) E.1 E.2.1 dX12_isSign_5 (by decide) (fun c_4 => ?_) (fun c_4 => ?_)
  · skip
    have hc_4 := neE (a := (mi 24).toInt) (b := 4) rfl (by decide +kernel) c_4
    refine lv_iconst (pc := 20) (v := 0) E.1 E.2.1 dX12_isSign_20 (by decide +kernel) ?_
    exact em_z (w1 := (fun (u : Unit) => (MW cI cJ M mr mi mf mg))) E hr hlk () hw1 (Or.inr (rfl)) (by decide +kernel) (Nat.le_of_ble_eq_true rfl) (Nat.le_of_ble_eq_true rfl) dX12_isSign_21
  · skip
    have hc_4 := eqE (a := (mi 24).toInt) (b := 4) rfl (by decide +kernel) c_4
    refine lv_aload_n (pc := 8) E.1 E.2.1 dX12_isSign_8 rfl (lv_at hl3 0 rfl) ?_
    refine x_get (pc := 9) (T := TX12) (N := 70) (ci := 12) (v := .int (mi 25)) E hw1 inX12 0 25 q_1424 rfl rfl (by decide) rfl rfl dX12_isSign_9 ?_
    refine lv_iload_n (pc := 12) E.1 E.2.1 dX12_isSign_12 rfl (lv_at hl3 1 rfl) ?_
    refine lv_icmp_ne (pc := 13) (tgt := 20) E.1 E.2.1 dX12_isSign_13 (by decide) (fun c_5 => ?_) (fun c_5 => ?_)
    · skip
      have hc_5 := neE (a := (mi 25).toInt) (b := z_c.toInt) rfl rfl c_5
      refine lv_iconst (pc := 20) (v := 0) E.1 E.2.1 dX12_isSign_20 (by decide +kernel) ?_
      exact em_z (w1 := (fun (u : Unit) => (MW cI cJ M mr mi mf mg))) E hr hlk () hw1 (Or.inr (rfl)) (by decide +kernel) (Nat.le_of_ble_eq_true rfl) (Nat.le_of_ble_eq_true rfl) dX12_isSign_21
    · skip
      have hc_5 := eqE (a := (mi 25).toInt) (b := z_c.toInt) rfl rfl c_5
      refine lv_iconst (pc := 16) (v := 1) E.1 E.2.1 dX12_isSign_16 (by decide +kernel) ?_
      refine lv_goto (pc := 17) (tgt := 21) E.1 E.2.1 dX12_isSign_17 (by decide) ?_
      exact em_z (w1 := (fun (u : Unit) => (MW cI cJ M mr mi mf mg))) E hr hlk () hw1 (Or.inl ⟨rfl, (by show (mi 24).toInt = 4; omega), (by show (mi 25).toInt = z_c.toInt; omega)⟩) (by decide +kernel) (Nat.le_of_ble_eq_true rfl) (Nat.le_of_ble_eq_true rfl) dX12_isSign_21

set_option maxHeartbeats 4000000 in
set_option maxRecDepth 100000 in
theorem s_errs2 (l : Launch) (D : va_G) (cI cJ : ClassId) (sz M : Nat) (mr : Nat → Nat) (mi : Nat → Int32) (mf : Nat → Nat → Int32) (mg : Nat → Nat → Int64) (z_k : Int32)  : Met l yX12_errs (Cond.code yX12_errs cX12_errs 2 (some .int) :: GW) ({ frames := 1, cells := 0, slots := 0, locals := 40 } : Room) (va_Pc [.ref M, .int z_k] (PW D cI cJ sz (MW cI cJ M mr mi mf mg) xT)) (va_Qi (fun (r : Int32) (u : Int32 × Int32) => ((r = (-1)))) (fun u => QW D cI cJ (va_A (MW cI cJ M mr mi mf mg) sz) ((fun (u : Int32 × Int32) => (MW cI cJ M mr (upd (upd mi 38 u.1) 39 u.2) mf mg)) u)) (va_A (MW cI cJ M mr mi mf mg) sz)) 0 0 (va_A (MW cI cJ M mr mi mf mg) sz) := by
  refine mk_met (y := yX12_errs) (bytes := cX12_errs) (maxL := 2) (avs := [.ref M, .int z_k]) (WS := (MW cI cJ M mr mi mf mg)) (Qf := fun A => va_Qi (fun (r : Int32) (u : Int32 × Int32) => ((r = (-1)))) (fun u => QW D cI cJ A ((fun (u : Int32 × Int32) => (MW cI cJ M mr (upd (upd mi 38 u.1) 39 u.2) mf mg)) u)) A) (by decide) (Nat.le_of_ble_eq_true rfl) ?_
  intro p e s m below meth c A ls E hr hlk hnm hX hw1 hl2
  have hl3 : lv_has ls 2 [(0, .ref M), (1, .int z_k)] := hl2
  refine lv_aload_n (pc := 0) E.1 E.2.1 dX12_errs_0 rfl (lv_at hl3 0 rfl) ?_
  refine lv_iload_n (pc := 1) E.1 E.2.1 dX12_errs_1 rfl (lv_at hl3 1 rfl) ?_
  refine x_put (pc := 2) (T := TX12) (N := 70) (ci := 12) (ws' := (MW cI cJ M mr (upd mi 38 z_k) mf mg)) E hw1 inX12 tyX12_ok nmX12 0 38 q_1437 rfl rfl (by decide) rfl rfl rfl rfl (Nat.le_of_ble_eq_true rfl) rfl dX12_errs_2 (fun H locs hw4 => ?_)
  refine lv_aload_n (pc := 5) E.1 E.2.1 dX12_errs_5 rfl (lv_at hl3 0 rfl) ?_
  refine lv_aload_n (pc := 6) E.1 E.2.1 dX12_errs_6 rfl (lv_at hl3 0 rfl) ?_
  refine x_get (pc := 7) (T := TX12) (N := 70) (ci := 12) (v := .int (mi 23)) E hw4 inX12 0 23 q_1422 rfl rfl (by decide) rfl rfl dX12_errs_7 ?_
  refine x_put (pc := 10) (T := TX12) (N := 70) (ci := 12) (ws' := (MW cI cJ M mr (upd (upd mi 38 z_k) 39 (mi 23)) mf mg)) E hw4 inX12 tyX12_ok nmX12 0 39 q_1438 rfl rfl (by decide) rfl rfl rfl rfl (Nat.le_of_ble_eq_true rfl) rfl dX12_errs_10 (fun H locs hw5 => ?_)
  refine lv_iconst (pc := 13) (v := (-1)) E.1 E.2.1 dX12_errs_13 (by decide +kernel) ?_
  exact em_i (w1 := (fun (u : Int32 × Int32) => (MW cI cJ M mr (upd (upd mi 38 u.1) 39 u.2) mf mg))) E hr hlk (z_k, (mi 23)) hw5 (rfl) (Nat.le_of_ble_eq_true rfl) (Nat.le_of_ble_eq_true rfl) dX12_errs_14

set_option maxHeartbeats 4000000 in
set_option maxRecDepth 100000 in
theorem s_wordAt (l : Launch) (D : va_G) (cI cJ : ClassId) (sz M : Nat) (mr : Nat → Nat) (mi : Nat → Int32) (mf : Nat → Nat → Int32) (mg : Nat → Nat → Int64) (z_a : Int32) (z_b : Int32) (h0 : 0 ≤ z_a.toInt) (h1 : z_a.toInt ≤ z_b.toInt) (h2 : z_b.toInt ≤ 400) (h3 : ((mf 26) 153).toInt = 32) (x_let : LT (mf 20) (z_a).toInt (z_b).toInt) : Met l yX12_wordAt (Cond.code yX12_wordAt cX12_wordAt 6 (some .int) :: GW) ({ frames := 1, cells := 0, slots := 0, locals := 40 } : Room) (va_Pc [.ref M, .int z_a, .int z_b] (PW D cI cJ sz (MW cI cJ M mr mi mf mg) xT)) (va_Qi (fun (r : Int32) (u : Unit) => True) (fun u => QW D cI cJ (va_A (MW cI cJ M mr mi mf mg) sz) ((fun (u : Unit) => (MW cI cJ M mr mi mf mg)) u)) (va_A (MW cI cJ M mr mi mf mg) sz)) 0 0 (va_A (MW cI cJ M mr mi mf mg) sz) := by
  refine mk_met (y := yX12_wordAt) (bytes := cX12_wordAt) (maxL := 6) (avs := [.ref M, .int z_a, .int z_b]) (WS := (MW cI cJ M mr mi mf mg)) (Qf := fun A => va_Qi (fun (r : Int32) (u : Unit) => True) (fun u => QW D cI cJ A ((fun (u : Unit) => (MW cI cJ M mr mi mf mg)) u)) A) (by decide) (Nat.le_of_ble_eq_true rfl) ?_
  intro p e s m below meth c A ls E hr hlk hnm hX hw1 hl2
  have hl3 : lv_has ls 6 [(0, .ref M), (1, .int z_a), (2, .int z_b)] := hl2
  refine lv_iconst (pc := 0) (v := (-1)) E.1 E.2.1 dX12_wordAt_0 (by decide +kernel) ?_
  refine lv_istore_n (pc := 1) (lv' := [(3, .int (-1)), (0, .ref M), (1, .int z_a), (2, .int z_b)]) E.1 E.2.1 dX12_wordAt_1 rfl hl3 (by decide) rfl (fun ls hl4 => ?_)
  refine lv_iconst (pc := 2) (v := 0) E.1 E.2.1 dX12_wordAt_2 (by decide +kernel) ?_
  refine lv_istore (pc := 3) (lv' := [(4, .int 0), (3, .int (-1)), (0, .ref M), (1, .int z_a), (2, .int z_b)]) E.1 E.2.1 dX12_wordAt_3 hl4 (by decide) rfl (fun ls hl5 => ?_)
  have loop_6 : ∀ (k : Nat) (x_7 : Int32) (x_8 : Int32) (H : Heap) (locs : List Loc) (ls : Array Slot), (0 ≤ x_7.toInt ∧ x_7.toInt ≤ 153) → 153 - x_7.toInt < (k : Int) → WD D A s.heap (MW cI cJ M mr mi mf mg) H locs → lv_has ls 6 [(4, .int x_7), (3, .int x_8), (0, .ref M), (1, .int z_a), (2, .int z_b)] → W p l e ({ frames := 1, cells := 0, slots := 0, locals := 40 } : Room) s m ([.ref M, .int z_a, .int z_b] : List Value).toArray below meth c H locs 0 0 (MQ below (va_Qi (fun (r : Int32) (u : Unit) => True) (fun u => QW D cI cJ A ((fun (u : Unit) => (MW cI cJ M mr mi mf mg)) u)) A) ([.ref M, .int z_a, .int z_b] : List Value).toArray s 0 0 A) (F0 m 5 ls []) := by
    intro k
    induction k with
    | zero =>
      intro x_7 x_8 _ _ _ hinv hm
      obtain hi_8_0 := hinv
      exact absurd hm (by omega)
    | succ k ih_9 =>
      intro x_7 x_8 H locs ls hinv hm hw10 hl11
      obtain hi_8_0 := hinv
      refine lv_iload (pc := 5) E.1 E.2.1 dX12_wordAt_5 (lv_at hl11 0 rfl) ?_
      refine lv_sipush (pc := 7) (v := 153) E.1 E.2.1 dX12_wordAt_7 (by decide +kernel) ?_
      refine lv_icmp_ge (pc := 10) (tgt := 118) E.1 E.2.1 dX12_wordAt_10 (by decide) (fun c_12 => ?_) (fun c_12 => ?_)
      · skip
        have hc_12 := leE (a := 153) (b := x_7.toInt) (by decide +kernel) rfl c_12
        refine lv_iconst (pc := 118) (v := (-1)) E.1 E.2.1 dX12_wordAt_118 (by decide +kernel) ?_
        exact em_i (w1 := (fun (u : Unit) => (MW cI cJ M mr mi mf mg))) E hr hlk () hw10 trivial (Nat.le_of_ble_eq_true rfl) (Nat.le_of_ble_eq_true rfl) dX12_wordAt_119
      · skip
        have hc_12 := nleE (a := 153) (b := x_7.toInt) (by decide +kernel) rfl c_12
        refine lv_iconst (pc := 13) (v := 0) E.1 E.2.1 dX12_wordAt_13 (by decide +kernel) ?_
        refine lv_istore (pc := 14) (lv' := [(5, .int 0), (4, .int x_7), (3, .int x_8), (0, .ref M), (1, .int z_a), (2, .int z_b)]) E.1 E.2.1 dX12_wordAt_14 hl11 (by decide) rfl (fun ls hl13 => ?_)
        refine lv_iload_n (pc := 16) E.1 E.2.1 dX12_wordAt_16 rfl (lv_at hl13 2 rfl) ?_
        refine lv_iconst (pc := 17) (v := 1) E.1 E.2.1 dX12_wordAt_17 (by decide +kernel) ?_
        refine lv_iadd (pc := 18) E.1 E.2.1 dX12_wordAt_18 ?_
        refine lv_topi (fun v_14 ev_14 => ?_)
        refine lv_istore_n (pc := 19) (lv' := [(3, .int v_14), (5, .int 0), (4, .int x_7), (0, .ref M), (1, .int z_a), (2, .int z_b)]) E.1 E.2.1 dX12_wordAt_19 rfl hl13 (by decide) rfl (fun ls hl15 => ?_)
        have loop_16 : ∀ (k : Nat) (x_17 : Int32) (H : Heap) (locs : List Loc) (ls : Array Slot), (0 ≤ x_17.toInt) ∧ (z_a.toInt + x_17.toInt ≤ z_b.toInt) ∧ (x_7.toInt + 1 + x_17.toInt ≤ 153) → 400 - x_17.toInt < (k : Int) → WD D A s.heap (MW cI cJ M mr mi mf mg) H locs → lv_has ls 6 [(3, .int v_14), (5, .int x_17), (4, .int x_7), (0, .ref M), (1, .int z_a), (2, .int z_b)] → W p l e ({ frames := 1, cells := 0, slots := 0, locals := 40 } : Room) s m ([.ref M, .int z_a, .int z_b] : List Value).toArray below meth c H locs 0 0 (MQ below (va_Qi (fun (r : Int32) (u : Unit) => True) (fun u => QW D cI cJ A ((fun (u : Unit) => (MW cI cJ M mr mi mf mg)) u)) A) ([.ref M, .int z_a, .int z_b] : List Value).toArray s 0 0 A) (F0 m 20 ls []) := by
          intro k
          induction k with
          | zero =>
            intro x_17 _ _ _ hinv hm
            obtain ⟨hi_17_0, hi_17_1, hi_17_2⟩ := hinv
            exact absurd hm (by omega)
          | succ k ih_18 =>
            intro x_17 H locs ls hinv hm hw19 hl20
            obtain ⟨hi_17_0, hi_17_1, hi_17_2⟩ := hinv
            refine lv_iload_n (pc := 20) E.1 E.2.1 dX12_wordAt_20 rfl (lv_at hl20 4 rfl) ?_
            refine lv_iload (pc := 21) E.1 E.2.1 dX12_wordAt_21 (lv_at hl20 1 rfl) ?_
            refine lv_iadd (pc := 23) E.1 E.2.1 dX12_wordAt_23 ?_
            refine lv_topi (fun v_21 ev_21 => ?_)
            have hv_21 : v_21.toInt = z_a.toInt + x_17.toInt := by rw [ev_21]; exact addE rfl rfl (by omega)
            refine lv_iload_n (pc := 24) E.1 E.2.1 dX12_wordAt_24 rfl (lv_at hl20 5 rfl) ?_
            refine lv_icmp_ge (pc := 25) (tgt := 61) E.1 E.2.1 dX12_wordAt_25 (by decide) (fun c_22 => ?_) (fun c_22 => ?_)
            · skip
              have hc_22 := leE (a := z_b.toInt) (b := v_21.toInt) rfl rfl c_22
              refine lv_iload_n (pc := 61) E.1 E.2.1 dX12_wordAt_61 rfl (lv_at hl20 4 rfl) ?_
              refine lv_iload (pc := 62) E.1 E.2.1 dX12_wordAt_62 (lv_at hl20 1 rfl) ?_
              refine lv_iadd (pc := 64) E.1 E.2.1 dX12_wordAt_64 ?_
              refine lv_topi (fun v_23 ev_23 => ?_)
              have hv_23 : v_23.toInt = z_a.toInt + x_17.toInt := by rw [ev_23]; exact addE rfl rfl (by omega)
              refine lv_iload_n (pc := 65) E.1 E.2.1 dX12_wordAt_65 rfl (lv_at hl20 5 rfl) ?_
              refine lv_icmp_ne (pc := 66) (tgt := 88) E.1 E.2.1 dX12_wordAt_66 (by decide) (fun c_24 => absurd (meqE (a := v_23.toInt) (b := z_b.toInt) rfl rfl (by omega)) c_24) (fun _ => ?_)
              refine lv_aload_n (pc := 69) E.1 E.2.1 dX12_wordAt_69 rfl (lv_at hl20 3 rfl) ?_
              refine x_get (pc := 70) (T := TX12) (N := 70) (ci := 12) (v := .ref (mr 26)) E hw19 inX12 0 26 q_1425 rfl rfl (by decide) rfl rfl dX12_wordAt_70 ?_
              refine lv_iload (pc := 73) E.1 E.2.1 dX12_wordAt_73 (lv_at hl20 2 rfl) ?_
              refine lv_iconst (pc := 75) (v := 1) E.1 E.2.1 dX12_wordAt_75 (by decide +kernel) ?_
              refine lv_iadd (pc := 76) E.1 E.2.1 dX12_wordAt_76 ?_
              refine lv_topi (fun v_25 ev_25 => ?_)
              have hv_25 : v_25.toInt = x_7.toInt + 1 := by rw [ev_25]; exact addE rfl (by decide +kernel) (by omega)
              refine lv_iload (pc := 77) E.1 E.2.1 dX12_wordAt_77 (lv_at hl20 1 rfl) ?_
              refine lv_iadd (pc := 79) E.1 E.2.1 dX12_wordAt_79 ?_
              refine lv_topi (fun v_26 ev_26 => ?_)
              have hv_26 : v_26.toInt = v_25.toInt + x_17.toInt := by rw [ev_26]; exact addE rfl rfl (by omega)
              refine x_iald (pc := 80) (f := (mf 26)) E hw19 13 rfl (inbE (a := v_26.toInt) rfl (by omega)) dX12_wordAt_80 ?_
              refine lv_topi (fun v_27 ev_27 => ?_)
              refine lv_bipush (pc := 81) (v := 32) E.1 E.2.1 dX12_wordAt_81 (by decide +kernel) ?_
              refine lv_icmp_ne (pc := 83) (tgt := 88) E.1 E.2.1 dX12_wordAt_83 (by decide) (fun c_28 => ?_) (fun c_28 => ?_)
              · skip
                have hc_28 := neE (a := v_27.toInt) (b := 32) rfl (by decide +kernel) c_28
                refine lv_iload (pc := 88) E.1 E.2.1 dX12_wordAt_88 (lv_at hl20 2 rfl) ?_
                refine lv_iconst (pc := 90) (v := 1) E.1 E.2.1 dX12_wordAt_90 (by decide +kernel) ?_
                refine lv_iadd (pc := 91) E.1 E.2.1 dX12_wordAt_91 ?_
                refine lv_topi (fun v_29 ev_29 => ?_)
                have hv_29 : v_29.toInt = x_7.toInt + 1 := by rw [ev_29]; exact addE rfl (by decide +kernel) (by omega)
                refine lv_istore (pc := 92) (lv' := [(4, .int v_29), (3, .int v_14), (5, .int x_17), (0, .ref M), (1, .int z_a), (2, .int z_b)]) E.1 E.2.1 dX12_wordAt_92 hl20 (by decide) rfl (fun ls hl30 => ?_)
                have loop_31 : ∀ (k : Nat) (x_32 : Int32) (H : Heap) (locs : List Loc) (ls : Array Slot), (x_7.toInt + 1 ≤ x_32.toInt) ∧ (x_32.toInt ≤ 153) → 153 - x_32.toInt < (k : Int) → WD D A s.heap (MW cI cJ M mr mi mf mg) H locs → lv_has ls 6 [(4, .int x_32), (3, .int v_14), (0, .ref M), (1, .int z_a), (2, .int z_b)] → W p l e ({ frames := 1, cells := 0, slots := 0, locals := 40 } : Room) s m ([.ref M, .int z_a, .int z_b] : List Value).toArray below meth c H locs 0 0 (MQ below (va_Qi (fun (r : Int32) (u : Unit) => True) (fun u => QW D cI cJ A ((fun (u : Unit) => (MW cI cJ M mr mi mf mg)) u)) A) ([.ref M, .int z_a, .int z_b] : List Value).toArray s 0 0 A) (F0 m 94 ls []) := by
                  intro k
                  induction k with
                  | zero =>
                    intro x_32 _ _ _ hinv hm
                    obtain ⟨hi_32_0, hi_32_1⟩ := hinv
                    exact absurd hm (by omega)
                  | succ k ih_33 =>
                    intro x_32 H locs ls hinv hm hw34 hl35
                    obtain ⟨hi_32_0, hi_32_1⟩ := hinv
                    refine lv_aload_n (pc := 94) E.1 E.2.1 dX12_wordAt_94 rfl (lv_at hl35 2 rfl) ?_
                    refine x_get (pc := 95) (T := TX12) (N := 70) (ci := 12) (v := .ref (mr 26)) E hw34 inX12 0 26 q_1425 rfl rfl (by decide) rfl rfl dX12_wordAt_95 ?_
                    refine lv_iload (pc := 98) E.1 E.2.1 dX12_wordAt_98 (lv_at hl35 0 rfl) ?_
                    refine x_iald (pc := 100) (f := (mf 26)) E hw34 13 rfl (inbE (a := x_32.toInt) rfl (by omega)) dX12_wordAt_100 ?_
                    refine lv_topi (fun v_36 ev_36 => ?_)
                    refine lv_bipush (pc := 101) (v := 32) E.1 E.2.1 dX12_wordAt_101 (by decide +kernel) ?_
                    refine lv_icmp_eq (pc := 103) (tgt := 115) E.1 E.2.1 dX12_wordAt_103 (by decide) (fun c_37 => ?_) (fun c_37 => ?_)
                    · skip
                      have hc_37 := eqE (a := v_36.toInt) (b := 32) rfl (by decide +kernel) c_37
                      refine lv_goto (pc := 115) (tgt := 5) E.1 E.2.1 dX12_wordAt_115 (by decide) ?_
                      exact ih_9 x_32 v_14 _ _ _ (by show 0 ≤ x_32.toInt ∧ x_32.toInt ≤ 153; omega) (by omega) hw34 (lv_sub hl35 [0, 1, 2, 3, 4] rfl)
                    · skip
                      have hc_37 := neE (a := v_36.toInt) (b := 32) rfl (by decide +kernel) c_37
                      have hz37 := wd_stop2 ev_36 (by omega) (by omega)
                      refine lv_iload (pc := 106) E.1 E.2.1 dX12_wordAt_106 (lv_at hl35 0 rfl) ?_
                      refine lv_iconst (pc := 108) (v := 1) E.1 E.2.1 dX12_wordAt_108 (by decide +kernel) ?_
                      refine lv_iadd (pc := 109) E.1 E.2.1 dX12_wordAt_109 ?_
                      refine lv_topi (fun v_38 ev_38 => ?_)
                      have hv_38 : v_38.toInt = x_32.toInt + 1 := by rw [ev_38]; exact addE rfl (by decide +kernel) (by omega)
                      refine lv_istore (pc := 110) (lv' := [(4, .int v_38), (3, .int v_14), (0, .ref M), (1, .int z_a), (2, .int z_b)]) E.1 E.2.1 dX12_wordAt_110 hl35 (by decide) rfl (fun ls hl39 => ?_)
                      refine lv_goto (pc := 112) (tgt := 94) E.1 E.2.1 dX12_wordAt_112 (by decide) ?_
                      exact ih_33 v_38 _ _ _ ⟨(by show x_7.toInt + 1 ≤ v_38.toInt; omega), (by show v_38.toInt ≤ 153; omega)⟩ (by omega) hw34 (lv_sub hl39 [0, 1, 2, 3, 4] rfl)
                exact loop_31 (Int.toNat (153 - v_29.toInt) + 1) v_29 _ _ _ ⟨(by show x_7.toInt + 1 ≤ v_29.toInt; omega), (by show v_29.toInt ≤ 153; omega)⟩ (by omega) hw19 (lv_sub hl30 [0, 1, 3, 4, 5] rfl)
              · skip
                have hc_28 := eqE (a := v_27.toInt) (b := 32) rfl (by decide +kernel) c_28
                refine lv_iload_n (pc := 86) E.1 E.2.1 dX12_wordAt_86 rfl (lv_at hl20 0 rfl) ?_
                exact em_i (w1 := (fun (u : Unit) => (MW cI cJ M mr mi mf mg))) E hr hlk () hw19 trivial (Nat.le_of_ble_eq_true rfl) (Nat.le_of_ble_eq_true rfl) dX12_wordAt_87
            · skip
              have hc_22 := nleE (a := z_b.toInt) (b := v_21.toInt) rfl rfl c_22
              refine lv_aload_n (pc := 28) E.1 E.2.1 dX12_wordAt_28 rfl (lv_at hl20 3 rfl) ?_
              refine x_get (pc := 29) (T := TX12) (N := 70) (ci := 12) (v := .ref (mr 26)) E hw19 inX12 0 26 q_1425 rfl rfl (by decide) rfl rfl dX12_wordAt_29 ?_
              refine lv_iload (pc := 32) E.1 E.2.1 dX12_wordAt_32 (lv_at hl20 2 rfl) ?_
              refine lv_iconst (pc := 34) (v := 1) E.1 E.2.1 dX12_wordAt_34 (by decide +kernel) ?_
              refine lv_iadd (pc := 35) E.1 E.2.1 dX12_wordAt_35 ?_
              refine lv_topi (fun v_40 ev_40 => ?_)
              have hv_40 : v_40.toInt = x_7.toInt + 1 := by rw [ev_40]; exact addE rfl (by decide +kernel) (by omega)
              refine lv_iload (pc := 36) E.1 E.2.1 dX12_wordAt_36 (lv_at hl20 1 rfl) ?_
              refine lv_iadd (pc := 38) E.1 E.2.1 dX12_wordAt_38 ?_
              refine lv_topi (fun v_41 ev_41 => ?_)
              have hv_41 : v_41.toInt = v_40.toInt + x_17.toInt := by rw [ev_41]; exact addE rfl rfl (by omega)
              refine x_iald (pc := 39) (f := (mf 26)) E hw19 13 rfl (inbE (a := v_41.toInt) rfl (by omega)) dX12_wordAt_39 ?_
              refine lv_topi (fun v_42 ev_42 => ?_)
              refine lv_aload_n (pc := 40) E.1 E.2.1 dX12_wordAt_40 rfl (lv_at hl20 3 rfl) ?_
              refine x_get (pc := 41) (T := TX12) (N := 70) (ci := 12) (v := .ref (mr 20)) E hw19 inX12 0 20 q_1419 rfl rfl (by decide) rfl rfl dX12_wordAt_41 ?_
              refine lv_iload_n (pc := 44) E.1 E.2.1 dX12_wordAt_44 rfl (lv_at hl20 4 rfl) ?_
              refine lv_iload (pc := 45) E.1 E.2.1 dX12_wordAt_45 (lv_at hl20 1 rfl) ?_
              refine lv_iadd (pc := 47) E.1 E.2.1 dX12_wordAt_47 ?_
              refine lv_topi (fun v_43 ev_43 => ?_)
              have hv_43 : v_43.toInt = z_a.toInt + x_17.toInt := by rw [ev_43]; exact addE rfl rfl (by omega)
              refine x_iald (pc := 48) (f := (mf 20)) E hw19 12 rfl (inbE (a := v_43.toInt) rfl (by omega)) dX12_wordAt_48 ?_
              refine lv_topi (fun v_44 ev_44 => ?_)
              refine lv_icmp_ne (pc := 49) (tgt := 61) E.1 E.2.1 dX12_wordAt_49 (by decide) (fun c_45 => ?_) (fun c_45 => ?_)
              · skip
                have hc_45 := neE (a := v_42.toInt) (b := v_44.toInt) rfl rfl c_45
                refine lv_iload_n (pc := 61) E.1 E.2.1 dX12_wordAt_61 rfl (lv_at hl20 4 rfl) ?_
                refine lv_iload (pc := 62) E.1 E.2.1 dX12_wordAt_62 (lv_at hl20 1 rfl) ?_
                refine lv_iadd (pc := 64) E.1 E.2.1 dX12_wordAt_64 ?_
                refine lv_topi (fun v_46 ev_46 => ?_)
                have hv_46 : v_46.toInt = z_a.toInt + x_17.toInt := by rw [ev_46]; exact addE rfl rfl (by omega)
                refine lv_iload_n (pc := 65) E.1 E.2.1 dX12_wordAt_65 rfl (lv_at hl20 5 rfl) ?_
                refine lv_icmp_ne (pc := 66) (tgt := 88) E.1 E.2.1 dX12_wordAt_66 (by decide) (fun _ => ?_) (fun c_47 => absurd c_47 (mneE (a := v_46.toInt) (b := z_b.toInt) rfl rfl (by omega)))
                refine lv_iload (pc := 88) E.1 E.2.1 dX12_wordAt_88 (lv_at hl20 2 rfl) ?_
                refine lv_iconst (pc := 90) (v := 1) E.1 E.2.1 dX12_wordAt_90 (by decide +kernel) ?_
                refine lv_iadd (pc := 91) E.1 E.2.1 dX12_wordAt_91 ?_
                refine lv_topi (fun v_48 ev_48 => ?_)
                have hv_48 : v_48.toInt = x_7.toInt + 1 := by rw [ev_48]; exact addE rfl (by decide +kernel) (by omega)
                refine lv_istore (pc := 92) (lv' := [(4, .int v_48), (3, .int v_14), (5, .int x_17), (0, .ref M), (1, .int z_a), (2, .int z_b)]) E.1 E.2.1 dX12_wordAt_92 hl20 (by decide) rfl (fun ls hl49 => ?_)
                have loop_50 : ∀ (k : Nat) (x_51 : Int32) (H : Heap) (locs : List Loc) (ls : Array Slot), (x_7.toInt + 1 ≤ x_51.toInt) ∧ (x_51.toInt ≤ 153) → 153 - x_51.toInt < (k : Int) → WD D A s.heap (MW cI cJ M mr mi mf mg) H locs → lv_has ls 6 [(4, .int x_51), (3, .int v_14), (0, .ref M), (1, .int z_a), (2, .int z_b)] → W p l e ({ frames := 1, cells := 0, slots := 0, locals := 40 } : Room) s m ([.ref M, .int z_a, .int z_b] : List Value).toArray below meth c H locs 0 0 (MQ below (va_Qi (fun (r : Int32) (u : Unit) => True) (fun u => QW D cI cJ A ((fun (u : Unit) => (MW cI cJ M mr mi mf mg)) u)) A) ([.ref M, .int z_a, .int z_b] : List Value).toArray s 0 0 A) (F0 m 94 ls []) := by
                  intro k
                  induction k with
                  | zero =>
                    intro x_51 _ _ _ hinv hm
                    obtain ⟨hi_51_0, hi_51_1⟩ := hinv
                    exact absurd hm (by omega)
                  | succ k ih_52 =>
                    intro x_51 H locs ls hinv hm hw53 hl54
                    obtain ⟨hi_51_0, hi_51_1⟩ := hinv
                    refine lv_aload_n (pc := 94) E.1 E.2.1 dX12_wordAt_94 rfl (lv_at hl54 2 rfl) ?_
                    refine x_get (pc := 95) (T := TX12) (N := 70) (ci := 12) (v := .ref (mr 26)) E hw53 inX12 0 26 q_1425 rfl rfl (by decide) rfl rfl dX12_wordAt_95 ?_
                    refine lv_iload (pc := 98) E.1 E.2.1 dX12_wordAt_98 (lv_at hl54 0 rfl) ?_
                    refine x_iald (pc := 100) (f := (mf 26)) E hw53 13 rfl (inbE (a := x_51.toInt) rfl (by omega)) dX12_wordAt_100 ?_
                    refine lv_topi (fun v_55 ev_55 => ?_)
                    refine lv_bipush (pc := 101) (v := 32) E.1 E.2.1 dX12_wordAt_101 (by decide +kernel) ?_
                    refine lv_icmp_eq (pc := 103) (tgt := 115) E.1 E.2.1 dX12_wordAt_103 (by decide) (fun c_56 => ?_) (fun c_56 => ?_)
                    · skip
                      have hc_56 := eqE (a := v_55.toInt) (b := 32) rfl (by decide +kernel) c_56
                      refine lv_goto (pc := 115) (tgt := 5) E.1 E.2.1 dX12_wordAt_115 (by decide) ?_
                      exact ih_9 x_51 v_14 _ _ _ (by show 0 ≤ x_51.toInt ∧ x_51.toInt ≤ 153; omega) (by omega) hw53 (lv_sub hl54 [0, 1, 2, 3, 4] rfl)
                    · skip
                      have hc_56 := neE (a := v_55.toInt) (b := 32) rfl (by decide +kernel) c_56
                      have hz56 := wd_stop2 ev_55 (by omega) (by omega)
                      refine lv_iload (pc := 106) E.1 E.2.1 dX12_wordAt_106 (lv_at hl54 0 rfl) ?_
                      refine lv_iconst (pc := 108) (v := 1) E.1 E.2.1 dX12_wordAt_108 (by decide +kernel) ?_
                      refine lv_iadd (pc := 109) E.1 E.2.1 dX12_wordAt_109 ?_
                      refine lv_topi (fun v_57 ev_57 => ?_)
                      have hv_57 : v_57.toInt = x_51.toInt + 1 := by rw [ev_57]; exact addE rfl (by decide +kernel) (by omega)
                      refine lv_istore (pc := 110) (lv' := [(4, .int v_57), (3, .int v_14), (0, .ref M), (1, .int z_a), (2, .int z_b)]) E.1 E.2.1 dX12_wordAt_110 hl54 (by decide) rfl (fun ls hl58 => ?_)
                      refine lv_goto (pc := 112) (tgt := 94) E.1 E.2.1 dX12_wordAt_112 (by decide) ?_
                      exact ih_52 v_57 _ _ _ ⟨(by show x_7.toInt + 1 ≤ v_57.toInt; omega), (by show v_57.toInt ≤ 153; omega)⟩ (by omega) hw53 (lv_sub hl58 [0, 1, 2, 3, 4] rfl)
                exact loop_50 (Int.toNat (153 - v_48.toInt) + 1) v_48 _ _ _ ⟨(by show x_7.toInt + 1 ≤ v_48.toInt; omega), (by show v_48.toInt ≤ 153; omega)⟩ (by omega) hw19 (lv_sub hl49 [0, 1, 3, 4, 5] rfl)
              · skip
                have hc_45 := eqE (a := v_42.toInt) (b := v_44.toInt) rfl rfl c_45
                have hz58 := wd_stop ev_42 ev_44 (by omega) (by omega) x_let (by omega) (by omega)
                refine lv_iload (pc := 52) E.1 E.2.1 dX12_wordAt_52 (lv_at hl20 1 rfl) ?_
                refine lv_iconst (pc := 54) (v := 1) E.1 E.2.1 dX12_wordAt_54 (by decide +kernel) ?_
                refine lv_iadd (pc := 55) E.1 E.2.1 dX12_wordAt_55 ?_
                refine lv_topi (fun v_59 ev_59 => ?_)
                have hv_59 : v_59.toInt = x_17.toInt + 1 := by rw [ev_59]; exact addE rfl (by decide +kernel) (by omega)
                refine lv_istore (pc := 56) (lv' := [(5, .int v_59), (3, .int v_14), (4, .int x_7), (0, .ref M), (1, .int z_a), (2, .int z_b)]) E.1 E.2.1 dX12_wordAt_56 hl20 (by decide) rfl (fun ls hl60 => ?_)
                refine lv_goto (pc := 58) (tgt := 20) E.1 E.2.1 dX12_wordAt_58 (by decide) ?_
                exact ih_18 v_59 _ _ _ ⟨(by show 0 ≤ v_59.toInt; omega), (by show z_a.toInt + v_59.toInt ≤ z_b.toInt; omega), (by show x_7.toInt + 1 + v_59.toInt ≤ 153; omega)⟩ (by omega) hw19 (lv_sub hl60 [1, 0, 2, 3, 4, 5] rfl)
        exact loop_16 (Int.toNat (400 - 0) + 1) 0 _ _ _ ⟨(by show 0 ≤ (0 : Int32).toInt; have k_0 : (0 : Int32).toInt = 0 := (by decide +kernel); omega), (by show z_a.toInt + (0 : Int32).toInt ≤ z_b.toInt; have k_0 : (0 : Int32).toInt = 0 := (by decide +kernel); omega), (by show x_7.toInt + 1 + (0 : Int32).toInt ≤ 153; have k_0 : (0 : Int32).toInt = 0 := (by decide +kernel); omega)⟩ (by have k_0 : (0 : Int32).toInt = 0 := (by decide +kernel); omega) hw10 (lv_sub hl15 [0, 1, 2, 3, 4, 5] rfl)
  exact loop_6 (Int.toNat (153 - 0) + 1) 0 (-1) _ _ _ (by show 0 ≤ (0 : Int32).toInt ∧ (0 : Int32).toInt ≤ 153; have k_0 : (0 : Int32).toInt = 0 := (by decide +kernel); omega) (by have k_0 : (0 : Int32).toInt = 0 := (by decide +kernel); have k_1 : ((-1) : Int32).toInt = -1 := (by decide +kernel); omega) hw1 (lv_sub hl5 [0, 1, 2, 3, 4] rfl)

set_option maxHeartbeats 4000000 in
set_option maxRecDepth 100000 in
theorem s_reads (l : Launch) (D : va_G) (cI cJ : ClassId) (sz M : Nat) (mr : Nat → Nat) (mi : Nat → Int32) (mf : Nat → Nat → Int32) (mg : Nat → Nat → Int64)  (h0 : 0 ≤ (mi 22).toInt) (h1 : (mi 22).toInt ≤ (mi 21).toInt) (h2 : (mi 21).toInt ≤ 400) (h3 : ((mf 26) 153).toInt = 32) : Met l yX12_reads (Cond.code yX12_reads cX12_reads 2 none :: GW) ({ frames := 3, cells := 0, slots := 0, locals := 84 } : Room) (va_Pc [.ref M] (PW D cI cJ sz (MW cI cJ M mr mi mf mg) xT)) (va_Qv (fun (u : Int32 × Int32 × Int32 × Int32) => (0 ≤ u.2.1.toInt) ∧ (u.2.1.toInt ≤ u.1.toInt) ∧ (u.1.toInt ≤ (mi 21).toInt) ∧ (0 ≤ u.2.2.1.toInt) ∧ (u.2.2.1.toInt ≤ 4) ∧ (u.2.2.1.toInt ≤ 4 * u.1.toInt - 4 * u.2.1.toInt) ∧ ((mi 22).toInt ≤ u.2.1.toInt)) (fun u => QW D cI cJ (va_A (MW cI cJ M mr mi mf mg) sz) ((fun (u : Int32 × Int32 × Int32 × Int32) => (MW cI cJ M mr (upd (upd (upd (upd mi 22 u.1) 23 u.2.1) 24 u.2.2.1) 25 u.2.2.2) mf mg)) u)) (va_A (MW cI cJ M mr mi mf mg) sz)) 0 0 (va_A (MW cI cJ M mr mi mf mg) sz) := by
  refine mk_met (y := yX12_reads) (bytes := cX12_reads) (maxL := 2) (avs := [.ref M]) (WS := (MW cI cJ M mr mi mf mg)) (Qf := fun A => va_Qv (fun (u : Int32 × Int32 × Int32 × Int32) => (0 ≤ u.2.1.toInt) ∧ (u.2.1.toInt ≤ u.1.toInt) ∧ (u.1.toInt ≤ (mi 21).toInt) ∧ (0 ≤ u.2.2.1.toInt) ∧ (u.2.2.1.toInt ≤ 4) ∧ (u.2.2.1.toInt ≤ 4 * u.1.toInt - 4 * u.2.1.toInt) ∧ ((mi 22).toInt ≤ u.2.1.toInt)) (fun u => QW D cI cJ A ((fun (u : Int32 × Int32 × Int32 × Int32) => (MW cI cJ M mr (upd (upd (upd (upd mi 22 u.1) 23 u.2.1) 24 u.2.2.1) 25 u.2.2.2) mf mg)) u)) A) (by decide) (Nat.le_of_ble_eq_true rfl) ?_
  intro p e s m below meth c A ls E hr hlk hnm hX hw1 hl2
  have hl3 : lv_has ls 2 [(0, .ref M)] := hl2
  have loop_4 : ∀ (k : Nat) (x_5 : Int32) (H : Heap) (locs : List Loc) (ls : Array Slot), (0 ≤ x_5.toInt) ∧ (x_5.toInt ≤ (mi 21).toInt) ∧ ((mi 22).toInt ≤ x_5.toInt) → (mi 21).toInt - x_5.toInt < (k : Int) → WD D A s.heap (MW cI cJ M mr (upd mi 22 x_5) mf mg) H locs → lv_has ls 2 [(0, .ref M)] → W p l e ({ frames := 3, cells := 0, slots := 0, locals := 84 } : Room) s m ([.ref M] : List Value).toArray below meth c H locs 0 0 (MQ below (va_Qv (fun (u : Int32 × Int32 × Int32 × Int32) => (0 ≤ u.2.1.toInt) ∧ (u.2.1.toInt ≤ u.1.toInt) ∧ (u.1.toInt ≤ (mi 21).toInt) ∧ (0 ≤ u.2.2.1.toInt) ∧ (u.2.2.1.toInt ≤ 4) ∧ (u.2.2.1.toInt ≤ 4 * u.1.toInt - 4 * u.2.1.toInt) ∧ ((mi 22).toInt ≤ u.2.1.toInt)) (fun u => QW D cI cJ A ((fun (u : Int32 × Int32 × Int32 × Int32) => (MW cI cJ M mr (upd (upd (upd (upd mi 22 u.1) 23 u.2.1) 24 u.2.2.1) 25 u.2.2.2) mf mg)) u)) A) ([.ref M] : List Value).toArray s 0 0 A) (F0 m 0 ls []) := by
    intro k
    induction k with
    | zero =>
      intro x_5 _ _ _ hinv hm
      obtain ⟨hi_5_0, hi_5_1, hi_5_2⟩ := hinv
      exact absurd hm (by omega)
    | succ k ih_6 =>
      intro x_5 H locs ls hinv hm hw7 hl8
      obtain ⟨hi_5_0, hi_5_1, hi_5_2⟩ := hinv
      refine lv_aload_n (pc := 0) E.1 E.2.1 dX12_reads_0 rfl (lv_at hl8 0 rfl) ?_
      refine lv_aload_n (pc := 1) E.1 E.2.1 dX12_reads_1 rfl (lv_at hl8 0 rfl) ?_
      refine x_get (pc := 2) (T := TX12) (N := 70) (ci := 12) (v := .int x_5) E hw7 inX12 0 22 q_1421 rfl rfl (by decide) rfl rfl dX12_reads_2 ?_
      refine cm_i (pc := 5) hw7 (rn_M (As := [.int x_5]) (rest := []) E hw7 (s_raw3 l D cI cJ _ M mr (upd mi 22 x_5) mf mg x_5 (by show 0 ≤ x_5.toInt; omega) (by show 0 ≤ (mi 21).toInt ∧ (mi 21).toInt ≤ 400; omega)) (gdV q_1670 q_1672 q_53 q_162 q_1673) hdV_X12_raw ⟨rfl, rfl⟩ ⟨(Nat.le_of_ble_eq_true rfl), (Nat.le_of_ble_eq_true rfl)⟩ ⟨(Nat.le_of_ble_eq_true rfl), (Nat.le_of_ble_eq_true rfl)⟩ 12 rfl rfl rfl rfl hl8.1 rfl (Nat.le_of_ble_eq_true rfl) dX12_reads_5) (fun r_10 u_9 H1 locs hp hw11 => ?_)
      generalize H1 = H at hw11 ⊢
      have hw12 : WD D A s.heap (MW cI cJ M mr (upd mi 22 x_5) mf mg) H locs := hw11
      obtain ⟨hp_13, hp_14⟩ := hp
      have hp_13 : (x_5).toInt < (mi 21).toInt → r_10 = (mf 20) (x_5).toNatClampNeg := hp_13
      rcases hp_14 with ⟨ha_15, ha_16⟩ | ha_17
      · skip
        have ha_15 : (mi 21).toInt ≤ x_5.toInt := ha_15
        have ha_16 : r_10.toInt = (-1) := ha_16
        refine lv_bipush (pc := 8) (v := 32) E.1 E.2.1 dX12_reads_8 (by decide +kernel) ?_
        refine lv_icmp_eq (pc := 10) (tgt := 26) E.1 E.2.1 dX12_reads_10 (by decide) (fun c_18 => absurd c_18 (mneE (a := r_10.toInt) (b := 32) rfl (by decide +kernel) (by omega))) (fun _ => ?_)
        refine lv_aload_n (pc := 13) E.1 E.2.1 dX12_reads_13 rfl (lv_at hl8 0 rfl) ?_
        refine lv_aload_n (pc := 14) E.1 E.2.1 dX12_reads_14 rfl (lv_at hl8 0 rfl) ?_
        refine x_get (pc := 15) (T := TX12) (N := 70) (ci := 12) (v := .int x_5) E hw12 inX12 0 22 q_1421 rfl rfl (by decide) rfl rfl dX12_reads_15 ?_
        refine cm_i (pc := 18) hw12 (rn_M (As := [.int x_5]) (rest := []) E hw12 (s_raw3 l D cI cJ _ M mr (upd mi 22 x_5) mf mg x_5 (by show 0 ≤ x_5.toInt; omega) (by show 0 ≤ (mi 21).toInt ∧ (mi 21).toInt ≤ 400; omega)) (gdV q_1670 q_1672 q_53 q_162 q_1673) hdV_X12_raw ⟨rfl, rfl⟩ ⟨(Nat.le_of_ble_eq_true rfl), (Nat.le_of_ble_eq_true rfl)⟩ ⟨(Nat.le_of_ble_eq_true rfl), (Nat.le_of_ble_eq_true rfl)⟩ 12 rfl rfl rfl rfl hl8.1 rfl (Nat.le_of_ble_eq_true rfl) dX12_reads_18) (fun r_20 u_19 H1 locs hp hw21 => ?_)
        generalize H1 = H at hw21 ⊢
        have hw22 : WD D A s.heap (MW cI cJ M mr (upd mi 22 x_5) mf mg) H locs := hw21
        obtain ⟨hp_23, hp_24⟩ := hp
        have hp_23 : (x_5).toInt < (mi 21).toInt → r_20 = (mf 20) (x_5).toNatClampNeg := hp_23
        rcases hp_24 with ⟨ha_25, ha_26⟩ | ha_27
        · skip
          have ha_25 : (mi 21).toInt ≤ x_5.toInt := ha_25
          have ha_26 : r_20.toInt = (-1) := ha_26
          refine lv_bipush (pc := 21) (v := 10) E.1 E.2.1 dX12_reads_21 (by decide +kernel) ?_
          refine lv_icmp_ne (pc := 23) (tgt := 39) E.1 E.2.1 dX12_reads_23 (by decide) (fun _ => ?_) (fun c_28 => absurd c_28 (mneE (a := r_20.toInt) (b := 10) rfl (by decide +kernel) (by omega)))
          refine lv_aload_n (pc := 39) E.1 E.2.1 dX12_reads_39 rfl (lv_at hl8 0 rfl) ?_
          refine lv_aload_n (pc := 40) E.1 E.2.1 dX12_reads_40 rfl (lv_at hl8 0 rfl) ?_
          refine x_get (pc := 41) (T := TX12) (N := 70) (ci := 12) (v := .int x_5) E hw22 inX12 0 22 q_1421 rfl rfl (by decide) rfl rfl dX12_reads_41 ?_
          refine x_put (pc := 44) (T := TX12) (N := 70) (ci := 12) (ws' := (MW cI cJ M mr (upd (upd mi 22 x_5) 23 x_5) mf mg)) E hw22 inX12 tyX12_ok nmX12 0 23 q_1422 rfl rfl (by decide) rfl rfl rfl rfl (Nat.le_of_ble_eq_true rfl) rfl dX12_reads_44 (fun H locs hw29 => ?_)
          refine lv_aload_n (pc := 47) E.1 E.2.1 dX12_reads_47 rfl (lv_at hl8 0 rfl) ?_
          refine lv_iconst (pc := 48) (v := 1) E.1 E.2.1 dX12_reads_48 (by decide +kernel) ?_
          refine x_put (pc := 49) (T := TX12) (N := 70) (ci := 12) (ws' := (MW cI cJ M mr (upd (upd (upd mi 22 x_5) 23 x_5) 24 1) mf mg)) E hw29 inX12 tyX12_ok nmX12 0 24 q_1423 rfl rfl (by decide) rfl rfl rfl rfl (Nat.le_of_ble_eq_true rfl) rfl dX12_reads_49 (fun H locs hw30 => ?_)
          refine lv_aload_n (pc := 52) E.1 E.2.1 dX12_reads_52 rfl (lv_at hl8 0 rfl) ?_
          refine lv_aload_n (pc := 53) E.1 E.2.1 dX12_reads_53 rfl (lv_at hl8 0 rfl) ?_
          refine x_get (pc := 54) (T := TX12) (N := 70) (ci := 12) (v := .int x_5) E hw30 inX12 0 22 q_1421 rfl rfl (by decide) rfl rfl dX12_reads_54 ?_
          refine cm_i (pc := 57) hw30 (rn_M (As := [.int x_5]) (rest := []) E hw30 (s_raw3 l D cI cJ _ M mr (upd (upd (upd mi 22 x_5) 23 x_5) 24 1) mf mg x_5 (by show 0 ≤ x_5.toInt; omega) (by show 0 ≤ (mi 21).toInt ∧ (mi 21).toInt ≤ 400; omega)) (gdV q_1670 q_1672 q_53 q_162 q_1673) hdV_X12_raw ⟨rfl, rfl⟩ ⟨(Nat.le_of_ble_eq_true rfl), (Nat.le_of_ble_eq_true rfl)⟩ ⟨(Nat.le_of_ble_eq_true rfl), (Nat.le_of_ble_eq_true rfl)⟩ 12 rfl rfl rfl rfl hl8.1 rfl (Nat.le_of_ble_eq_true rfl) dX12_reads_57) (fun r_32 u_31 H1 locs hp hw33 => ?_)
          generalize H1 = H at hw33 ⊢
          have hw34 : WD D A s.heap (MW cI cJ M mr (upd (upd (upd mi 22 x_5) 23 x_5) 24 1) mf mg) H locs := hw33
          obtain ⟨hp_35, hp_36⟩ := hp
          have hp_35 : (x_5).toInt < (mi 21).toInt → r_32 = (mf 20) (x_5).toNatClampNeg := hp_35
          rcases hp_36 with ⟨ha_37, ha_38⟩ | ha_39
          · skip
            have ha_37 : (mi 21).toInt ≤ x_5.toInt := ha_37
            have ha_38 : r_32.toInt = (-1) := ha_38
            refine lv_istore_n (pc := 60) (lv' := [(1, .int r_32), (0, .ref M)]) E.1 E.2.1 dX12_reads_60 rfl hl8 (by decide) rfl (fun ls hl40 => ?_)
            refine lv_iload_n (pc := 61) E.1 E.2.1 dX12_reads_61 rfl (lv_at hl40 0 rfl) ?_
            refine lv_iconst (pc := 62) (v := (-1)) E.1 E.2.1 dX12_reads_62 (by decide +kernel) ?_
            refine lv_icmp_ne (pc := 63) (tgt := 72) E.1 E.2.1 dX12_reads_63 (by decide) (fun c_41 => absurd (meqE (a := r_32.toInt) (b := (-1)) rfl (by decide +kernel) (by omega)) c_41) (fun _ => ?_)
            refine lv_aload_n (pc := 66) E.1 E.2.1 dX12_reads_66 rfl (lv_at hl40 1 rfl) ?_
            refine lv_iconst (pc := 67) (v := 0) E.1 E.2.1 dX12_reads_67 (by decide +kernel) ?_
            refine x_put (pc := 68) (T := TX12) (N := 70) (ci := 12) (ws' := (MW cI cJ M mr (upd (upd (upd mi 22 x_5) 23 x_5) 24 0) mf mg)) E hw34 inX12 tyX12_ok nmX12 0 24 q_1423 rfl rfl (by decide) rfl rfl rfl rfl (Nat.le_of_ble_eq_true rfl) rfl dX12_reads_68 (fun H locs hw42 => ?_)
            exact em_v (w1 := (fun (u : Int32 × Int32 × Int32 × Int32) => (MW cI cJ M mr (upd (upd (upd (upd mi 22 u.1) 23 u.2.1) 24 u.2.2.1) 25 u.2.2.2) mf mg))) E hr hlk (x_5, x_5, 0, (mi 25)) hw42 ⟨(by show 0 ≤ x_5.toInt; have k_0 : (0 : Int32).toInt = 0 := (by decide +kernel); omega), (by show x_5.toInt ≤ x_5.toInt; have k_0 : (0 : Int32).toInt = 0 := (by decide +kernel); omega), (by show x_5.toInt ≤ (mi 21).toInt; have k_0 : (0 : Int32).toInt = 0 := (by decide +kernel); omega), (by show 0 ≤ (0 : Int32).toInt; have k_0 : (0 : Int32).toInt = 0 := (by decide +kernel); omega), (by show (0 : Int32).toInt ≤ 4; have k_0 : (0 : Int32).toInt = 0 := (by decide +kernel); omega), (by show (0 : Int32).toInt ≤ 4 * x_5.toInt - 4 * x_5.toInt; have k_0 : (0 : Int32).toInt = 0 := (by decide +kernel); omega), (by show (mi 22).toInt ≤ x_5.toInt; have k_0 : (0 : Int32).toInt = 0 := (by decide +kernel); omega)⟩ (Nat.le_of_ble_eq_true rfl) (Nat.le_of_ble_eq_true rfl) dX12_reads_71
          · skip
            have ha_39 : x_5.toInt ≤ (mi 21).toInt - 1 := ha_39
            exfalso; omega
        · skip
          have ha_27 : x_5.toInt ≤ (mi 21).toInt - 1 := ha_27
          exfalso; omega
      · skip
        have ha_17 : x_5.toInt ≤ (mi 21).toInt - 1 := ha_17
        refine lv_bipush (pc := 8) (v := 32) E.1 E.2.1 dX12_reads_8 (by decide +kernel) ?_
        refine lv_icmp_eq (pc := 10) (tgt := 26) E.1 E.2.1 dX12_reads_10 (by decide) (fun c_43 => ?_) (fun c_43 => ?_)
        · skip
          have hc_43 := eqE (a := r_10.toInt) (b := 32) rfl (by decide +kernel) c_43
          refine lv_aload_n (pc := 26) E.1 E.2.1 dX12_reads_26 rfl (lv_at hl8 0 rfl) ?_
          refine lv_aload_n (pc := 27) E.1 E.2.1 dX12_reads_27 rfl (lv_at hl8 0 rfl) ?_
          refine x_get (pc := 28) (T := TX12) (N := 70) (ci := 12) (v := .int x_5) E hw12 inX12 0 22 q_1421 rfl rfl (by decide) rfl rfl dX12_reads_28 ?_
          refine lv_iconst (pc := 31) (v := 1) E.1 E.2.1 dX12_reads_31 (by decide +kernel) ?_
          refine lv_iadd (pc := 32) E.1 E.2.1 dX12_reads_32 ?_
          refine lv_topi (fun v_44 ev_44 => ?_)
          have hv_44 : v_44.toInt = x_5.toInt + 1 := by rw [ev_44]; exact addE rfl (by decide +kernel) (by omega)
          refine x_put (pc := 33) (T := TX12) (N := 70) (ci := 12) (ws' := (MW cI cJ M mr (upd mi 22 v_44) mf mg)) E hw12 inX12 tyX12_ok nmX12 0 22 q_1421 rfl rfl (by decide) rfl rfl rfl rfl (Nat.le_of_ble_eq_true rfl) rfl dX12_reads_33 (fun H locs hw45 => ?_)
          refine lv_goto (pc := 36) (tgt := 0) E.1 E.2.1 dX12_reads_36 (by decide) ?_
          exact ih_6 v_44 _ _ _ ⟨(by show 0 ≤ v_44.toInt; omega), (by show v_44.toInt ≤ (mi 21).toInt; omega), (by show (mi 22).toInt ≤ v_44.toInt; omega)⟩ (by omega) hw45 (lv_sub hl8 [0] rfl)
        · skip
          have hc_43 := neE (a := r_10.toInt) (b := 32) rfl (by decide +kernel) c_43
          refine lv_aload_n (pc := 13) E.1 E.2.1 dX12_reads_13 rfl (lv_at hl8 0 rfl) ?_
          refine lv_aload_n (pc := 14) E.1 E.2.1 dX12_reads_14 rfl (lv_at hl8 0 rfl) ?_
          refine x_get (pc := 15) (T := TX12) (N := 70) (ci := 12) (v := .int x_5) E hw12 inX12 0 22 q_1421 rfl rfl (by decide) rfl rfl dX12_reads_15 ?_
          refine cm_i (pc := 18) hw12 (rn_M (As := [.int x_5]) (rest := []) E hw12 (s_raw3 l D cI cJ _ M mr (upd mi 22 x_5) mf mg x_5 (by show 0 ≤ x_5.toInt; omega) (by show 0 ≤ (mi 21).toInt ∧ (mi 21).toInt ≤ 400; omega)) (gdV q_1670 q_1672 q_53 q_162 q_1673) hdV_X12_raw ⟨rfl, rfl⟩ ⟨(Nat.le_of_ble_eq_true rfl), (Nat.le_of_ble_eq_true rfl)⟩ ⟨(Nat.le_of_ble_eq_true rfl), (Nat.le_of_ble_eq_true rfl)⟩ 12 rfl rfl rfl rfl hl8.1 rfl (Nat.le_of_ble_eq_true rfl) dX12_reads_18) (fun r_47 u_46 H1 locs hp hw48 => ?_)
          generalize H1 = H at hw48 ⊢
          have hw49 : WD D A s.heap (MW cI cJ M mr (upd mi 22 x_5) mf mg) H locs := hw48
          obtain ⟨hp_50, hp_51⟩ := hp
          have hp_50 : (x_5).toInt < (mi 21).toInt → r_47 = (mf 20) (x_5).toNatClampNeg := hp_50
          rcases hp_51 with ⟨ha_52, ha_53⟩ | ha_54
          · skip
            have ha_52 : (mi 21).toInt ≤ x_5.toInt := ha_52
            have ha_53 : r_47.toInt = (-1) := ha_53
            exfalso; omega
          · skip
            have ha_54 : x_5.toInt ≤ (mi 21).toInt - 1 := ha_54
            refine lv_bipush (pc := 21) (v := 10) E.1 E.2.1 dX12_reads_21 (by decide +kernel) ?_
            refine lv_icmp_ne (pc := 23) (tgt := 39) E.1 E.2.1 dX12_reads_23 (by decide) (fun c_55 => ?_) (fun c_55 => ?_)
            · skip
              have hc_55 := neE (a := r_47.toInt) (b := 10) rfl (by decide +kernel) c_55
              refine lv_aload_n (pc := 39) E.1 E.2.1 dX12_reads_39 rfl (lv_at hl8 0 rfl) ?_
              refine lv_aload_n (pc := 40) E.1 E.2.1 dX12_reads_40 rfl (lv_at hl8 0 rfl) ?_
              refine x_get (pc := 41) (T := TX12) (N := 70) (ci := 12) (v := .int x_5) E hw49 inX12 0 22 q_1421 rfl rfl (by decide) rfl rfl dX12_reads_41 ?_
              refine x_put (pc := 44) (T := TX12) (N := 70) (ci := 12) (ws' := (MW cI cJ M mr (upd (upd mi 22 x_5) 23 x_5) mf mg)) E hw49 inX12 tyX12_ok nmX12 0 23 q_1422 rfl rfl (by decide) rfl rfl rfl rfl (Nat.le_of_ble_eq_true rfl) rfl dX12_reads_44 (fun H locs hw56 => ?_)
              refine lv_aload_n (pc := 47) E.1 E.2.1 dX12_reads_47 rfl (lv_at hl8 0 rfl) ?_
              refine lv_iconst (pc := 48) (v := 1) E.1 E.2.1 dX12_reads_48 (by decide +kernel) ?_
              refine x_put (pc := 49) (T := TX12) (N := 70) (ci := 12) (ws' := (MW cI cJ M mr (upd (upd (upd mi 22 x_5) 23 x_5) 24 1) mf mg)) E hw56 inX12 tyX12_ok nmX12 0 24 q_1423 rfl rfl (by decide) rfl rfl rfl rfl (Nat.le_of_ble_eq_true rfl) rfl dX12_reads_49 (fun H locs hw57 => ?_)
              refine lv_aload_n (pc := 52) E.1 E.2.1 dX12_reads_52 rfl (lv_at hl8 0 rfl) ?_
              refine lv_aload_n (pc := 53) E.1 E.2.1 dX12_reads_53 rfl (lv_at hl8 0 rfl) ?_
              refine x_get (pc := 54) (T := TX12) (N := 70) (ci := 12) (v := .int x_5) E hw57 inX12 0 22 q_1421 rfl rfl (by decide) rfl rfl dX12_reads_54 ?_
              refine cm_i (pc := 57) hw57 (rn_M (As := [.int x_5]) (rest := []) E hw57 (s_raw3 l D cI cJ _ M mr (upd (upd (upd mi 22 x_5) 23 x_5) 24 1) mf mg x_5 (by show 0 ≤ x_5.toInt; omega) (by show 0 ≤ (mi 21).toInt ∧ (mi 21).toInt ≤ 400; omega)) (gdV q_1670 q_1672 q_53 q_162 q_1673) hdV_X12_raw ⟨rfl, rfl⟩ ⟨(Nat.le_of_ble_eq_true rfl), (Nat.le_of_ble_eq_true rfl)⟩ ⟨(Nat.le_of_ble_eq_true rfl), (Nat.le_of_ble_eq_true rfl)⟩ 12 rfl rfl rfl rfl hl8.1 rfl (Nat.le_of_ble_eq_true rfl) dX12_reads_57) (fun r_59 u_58 H1 locs hp hw60 => ?_)
              generalize H1 = H at hw60 ⊢
              have hw61 : WD D A s.heap (MW cI cJ M mr (upd (upd (upd mi 22 x_5) 23 x_5) 24 1) mf mg) H locs := hw60
              obtain ⟨hp_62, hp_63⟩ := hp
              have hp_62 : (x_5).toInt < (mi 21).toInt → r_59 = (mf 20) (x_5).toNatClampNeg := hp_62
              rcases hp_63 with ⟨ha_64, ha_65⟩ | ha_66
              · skip
                have ha_64 : (mi 21).toInt ≤ x_5.toInt := ha_64
                have ha_65 : r_59.toInt = (-1) := ha_65
                exfalso; omega
              · skip
                have ha_66 : x_5.toInt ≤ (mi 21).toInt - 1 := ha_66
                refine lv_istore_n (pc := 60) (lv' := [(1, .int r_59), (0, .ref M)]) E.1 E.2.1 dX12_reads_60 rfl hl8 (by decide) rfl (fun ls hl67 => ?_)
                refine lv_iload_n (pc := 61) E.1 E.2.1 dX12_reads_61 rfl (lv_at hl67 0 rfl) ?_
                refine lv_iconst (pc := 62) (v := (-1)) E.1 E.2.1 dX12_reads_62 (by decide +kernel) ?_
                refine lv_icmp_ne (pc := 63) (tgt := 72) E.1 E.2.1 dX12_reads_63 (by decide) (fun c_68 => ?_) (fun c_68 => ?_)
                · skip
                  have hc_68 := neE (a := r_59.toInt) (b := (-1)) rfl (by decide +kernel) c_68
                  refine lv_aload_n (pc := 72) E.1 E.2.1 dX12_reads_72 rfl (lv_at hl67 1 rfl) ?_
                  refine lv_aload_n (pc := 73) E.1 E.2.1 dX12_reads_73 rfl (lv_at hl67 1 rfl) ?_
                  refine x_get (pc := 74) (T := TX12) (N := 70) (ci := 12) (v := .int x_5) E hw61 inX12 0 22 q_1421 rfl rfl (by decide) rfl rfl dX12_reads_74 ?_
                  refine lv_iconst (pc := 77) (v := 1) E.1 E.2.1 dX12_reads_77 (by decide +kernel) ?_
                  refine lv_iadd (pc := 78) E.1 E.2.1 dX12_reads_78 ?_
                  refine lv_topi (fun v_69 ev_69 => ?_)
                  have hv_69 : v_69.toInt = x_5.toInt + 1 := by rw [ev_69]; exact addE rfl (by decide +kernel) (by omega)
                  refine x_put (pc := 79) (T := TX12) (N := 70) (ci := 12) (ws' := (MW cI cJ M mr (upd (upd (upd mi 22 v_69) 23 x_5) 24 1) mf mg)) E hw61 inX12 tyX12_ok nmX12 0 22 q_1421 rfl rfl (by decide) rfl rfl rfl rfl (Nat.le_of_ble_eq_true rfl) rfl dX12_reads_79 (fun H locs hw70 => ?_)
                  refine lv_aload_n (pc := 82) E.1 E.2.1 dX12_reads_82 rfl (lv_at hl67 1 rfl) ?_
                  refine lv_iload_n (pc := 83) E.1 E.2.1 dX12_reads_83 rfl (lv_at hl67 0 rfl) ?_
                  refine x_put (pc := 84) (T := TX12) (N := 70) (ci := 12) (ws' := (MW cI cJ M mr (upd (upd (upd (upd mi 22 v_69) 23 x_5) 24 1) 25 r_59) mf mg)) E hw70 inX12 tyX12_ok nmX12 0 25 q_1424 rfl rfl (by decide) rfl rfl rfl rfl (Nat.le_of_ble_eq_true rfl) rfl dX12_reads_84 (fun H locs hw71 => ?_)
                  refine lv_aload_n (pc := 87) E.1 E.2.1 dX12_reads_87 rfl (lv_at hl67 1 rfl) ?_
                  refine lv_iload_n (pc := 88) E.1 E.2.1 dX12_reads_88 rfl (lv_at hl67 0 rfl) ?_
                  refine cm_i (pc := 89) hw71 (rn_M (As := [.int r_59]) (rest := []) E hw71 (s_isLetter2 l D cI cJ _ M mr (upd (upd (upd (upd mi 22 v_69) 23 x_5) 24 1) 25 r_59) mf mg r_59) (gdV q_1674 q_1676 q_54 q_162 q_1677) hdV_X12_isLetter ⟨rfl, rfl⟩ ⟨(Nat.le_of_ble_eq_true rfl), (Nat.le_of_ble_eq_true rfl)⟩ ⟨(Nat.le_of_ble_eq_true rfl), (Nat.le_of_ble_eq_true rfl)⟩ 12 rfl rfl rfl rfl hl67.1 rfl (Nat.le_of_ble_eq_true rfl) dX12_reads_89) (fun r_73 u_72 H1 locs hp hw74 => ?_)
                  generalize H1 = H at hw74 ⊢
                  have hw75 : WD D A s.heap (MW cI cJ M mr (upd (upd (upd (upd mi 22 v_69) 23 x_5) 24 1) 25 r_59) mf mg) H locs := hw74
                  have hp_76 := hp
                  rcases hp_76 with ⟨rfl, ha_77, ha_78⟩ | rfl
                  · skip
                    have ha_77 : 65 ≤ r_59.toInt := ha_77
                    have ha_78 : r_59.toInt ≤ 122 := ha_78
                    refine lv_if_eq (pc := 92) (tgt := 155) E.1 E.2.1 dX12_reads_92 (by decide) (fun c_79 => absurd c_79 (mneE (a := 1) (b := 0) (by decide +kernel) (by decide +kernel) (by omega))) (fun _ => ?_)
                    have loop_80 : ∀ (k : Nat) (x_81 : Int32) (H : Heap) (locs : List Loc) (ls : Array Slot), (x_5.toInt + 1 ≤ x_81.toInt) ∧ (x_81.toInt ≤ (mi 21).toInt) ∧ (LT (mf 20) x_5.toInt x_81.toInt) → (mi 21).toInt - x_81.toInt < (k : Int) → WD D A s.heap (MW cI cJ M mr (upd (upd (upd (upd mi 22 x_81) 23 x_5) 24 1) 25 r_59) mf mg) H locs → lv_has ls 2 [(1, .int r_59), (0, .ref M)] → W p l e ({ frames := 3, cells := 0, slots := 0, locals := 84 } : Room) s m ([.ref M] : List Value).toArray below meth c H locs 0 0 (MQ below (va_Qv (fun (u : Int32 × Int32 × Int32 × Int32) => (0 ≤ u.2.1.toInt) ∧ (u.2.1.toInt ≤ u.1.toInt) ∧ (u.1.toInt ≤ (mi 21).toInt) ∧ (0 ≤ u.2.2.1.toInt) ∧ (u.2.2.1.toInt ≤ 4) ∧ (u.2.2.1.toInt ≤ 4 * u.1.toInt - 4 * u.2.1.toInt) ∧ ((mi 22).toInt ≤ u.2.1.toInt)) (fun u => QW D cI cJ A ((fun (u : Int32 × Int32 × Int32 × Int32) => (MW cI cJ M mr (upd (upd (upd (upd mi 22 u.1) 23 u.2.1) 24 u.2.2.1) 25 u.2.2.2) mf mg)) u)) A) ([.ref M] : List Value).toArray s 0 0 A) (F0 m 95 ls []) := by
                      intro k
                      induction k with
                      | zero =>
                        intro x_81 _ _ _ hinv hm
                        obtain ⟨hi_81_0, hi_81_1, hi_81_2⟩ := hinv
                        exact absurd hm (by omega)
                      | succ k ih_82 =>
                        intro x_81 H locs ls hinv hm hw83 hl84
                        obtain ⟨hi_81_0, hi_81_1, hi_81_2⟩ := hinv
                        refine lv_aload_n (pc := 95) E.1 E.2.1 dX12_reads_95 rfl (lv_at hl84 1 rfl) ?_
                        refine lv_aload_n (pc := 96) E.1 E.2.1 dX12_reads_96 rfl (lv_at hl84 1 rfl) ?_
                        refine lv_aload_n (pc := 97) E.1 E.2.1 dX12_reads_97 rfl (lv_at hl84 1 rfl) ?_
                        refine x_get (pc := 98) (T := TX12) (N := 70) (ci := 12) (v := .int x_81) E hw83 inX12 0 22 q_1421 rfl rfl (by decide) rfl rfl dX12_reads_98 ?_
                        refine cm_i (pc := 101) hw83 (rn_M (As := [.int x_81]) (rest := [.ref M]) E hw83 (s_raw3 l D cI cJ _ M mr (upd (upd (upd (upd mi 22 x_81) 23 x_5) 24 1) 25 r_59) mf mg x_81 (by show 0 ≤ x_81.toInt; omega) (by show 0 ≤ (mi 21).toInt ∧ (mi 21).toInt ≤ 400; omega)) (gdV q_1670 q_1672 q_53 q_162 q_1673) hdV_X12_raw ⟨rfl, rfl⟩ ⟨(Nat.le_of_ble_eq_true rfl), (Nat.le_of_ble_eq_true rfl)⟩ ⟨(Nat.le_of_ble_eq_true rfl), (Nat.le_of_ble_eq_true rfl)⟩ 12 rfl rfl rfl rfl hl84.1 rfl (Nat.le_of_ble_eq_true rfl) dX12_reads_101) (fun r_86 u_85 H1 locs hp hw87 => ?_)
                        generalize H1 = H at hw87 ⊢
                        have hw88 : WD D A s.heap (MW cI cJ M mr (upd (upd (upd (upd mi 22 x_81) 23 x_5) 24 1) 25 r_59) mf mg) H locs := hw87
                        obtain ⟨hp_89, hp_90⟩ := hp
                        have hp_89 : (x_81).toInt < (mi 21).toInt → r_86 = (mf 20) (x_81).toNatClampNeg := hp_89
                        rcases hp_90 with ⟨ha_91, ha_92⟩ | ha_93
                        · skip
                          have ha_91 : (mi 21).toInt ≤ x_81.toInt := ha_91
                          have ha_92 : r_86.toInt = (-1) := ha_92
                          refine cm_i (pc := 104) hw88 (rn_M (As := [.int r_86]) (rest := []) E hw88 (s_isLetter2 l D cI cJ _ M mr (upd (upd (upd (upd mi 22 x_81) 23 x_5) 24 1) 25 r_59) mf mg r_86) (gdV q_1674 q_1676 q_54 q_162 q_1677) hdV_X12_isLetter ⟨rfl, rfl⟩ ⟨(Nat.le_of_ble_eq_true rfl), (Nat.le_of_ble_eq_true rfl)⟩ ⟨(Nat.le_of_ble_eq_true rfl), (Nat.le_of_ble_eq_true rfl)⟩ 12 rfl rfl rfl rfl hl84.1 rfl (Nat.le_of_ble_eq_true rfl) dX12_reads_104) (fun r_95 u_94 H1 locs hp hw96 => ?_)
                          generalize H1 = H at hw96 ⊢
                          have hw97 : WD D A s.heap (MW cI cJ M mr (upd (upd (upd (upd mi 22 x_81) 23 x_5) 24 1) 25 r_59) mf mg) H locs := hw96
                          have hp_98 := hp
                          rcases hp_98 with ⟨rfl, ha_99, ha_100⟩ | rfl
                          · skip
                            have ha_99 : 65 ≤ r_86.toInt := ha_99
                            have ha_100 : r_86.toInt ≤ 122 := ha_100
                            exfalso; omega
                          · skip
                            refine lv_if_eq (pc := 107) (tgt := 123) E.1 E.2.1 dX12_reads_107 (by decide) (fun _ => ?_) (fun c_101 => absurd (meqE (a := 0) (b := 0) (by decide +kernel) (by decide +kernel) (by omega)) c_101)
                            refine lv_aload_n (pc := 123) E.1 E.2.1 dX12_reads_123 rfl (lv_at hl84 1 rfl) ?_
                            refine lv_aload_n (pc := 124) E.1 E.2.1 dX12_reads_124 rfl (lv_at hl84 1 rfl) ?_
                            refine lv_aload_n (pc := 125) E.1 E.2.1 dX12_reads_125 rfl (lv_at hl84 1 rfl) ?_
                            refine x_get (pc := 126) (T := TX12) (N := 70) (ci := 12) (v := .int x_5) E hw97 inX12 0 23 q_1422 rfl rfl (by decide) rfl rfl dX12_reads_126 ?_
                            refine lv_aload_n (pc := 129) E.1 E.2.1 dX12_reads_129 rfl (lv_at hl84 1 rfl) ?_
                            refine x_get (pc := 130) (T := TX12) (N := 70) (ci := 12) (v := .int x_81) E hw97 inX12 0 22 q_1421 rfl rfl (by decide) rfl rfl dX12_reads_130 ?_
                            refine cm_i (pc := 133) hw97 (rn_M (As := [.int x_5, .int x_81]) (rest := [.ref M]) E hw97 (s_wordAt l D cI cJ _ M mr (upd (upd (upd (upd mi 22 x_81) 23 x_5) 24 1) 25 r_59) mf mg x_5 x_81 (by show 0 ≤ x_5.toInt; omega) (by show x_5.toInt ≤ x_81.toInt; omega) (by show x_81.toInt ≤ 400; omega) (by show ((mf 26) 153).toInt = 32; omega) (show LT (mf 20) (x_5).toInt (x_81).toInt from hi_81_2)) (gdV q_1678 q_1680 q_55 q_162 q_1681) hdV_X12_wordAt ⟨rfl, rfl⟩ ⟨(Nat.le_of_ble_eq_true rfl), (Nat.le_of_ble_eq_true rfl)⟩ ⟨(Nat.le_of_ble_eq_true rfl), (Nat.le_of_ble_eq_true rfl)⟩ 12 rfl rfl rfl rfl hl84.1 rfl (Nat.le_of_ble_eq_true rfl) dX12_reads_133) (fun r_103 u_102 H1 locs hp hw104 => ?_)
                            generalize H1 = H at hw104 ⊢
                            have hw105 : WD D A s.heap (MW cI cJ M mr (upd (upd (upd (upd mi 22 x_81) 23 x_5) 24 1) 25 r_59) mf mg) H locs := hw104
                            refine x_put (pc := 136) (T := TX12) (N := 70) (ci := 12) (ws' := (MW cI cJ M mr (upd (upd (upd (upd mi 22 x_81) 23 x_5) 24 1) 25 r_103) mf mg)) E hw105 inX12 tyX12_ok nmX12 0 25 q_1424 rfl rfl (by decide) rfl rfl rfl rfl (Nat.le_of_ble_eq_true rfl) rfl dX12_reads_136 (fun H locs hw106 => ?_)
                            refine lv_aload_n (pc := 139) E.1 E.2.1 dX12_reads_139 rfl (lv_at hl84 1 rfl) ?_
                            refine x_get (pc := 140) (T := TX12) (N := 70) (ci := 12) (v := .int r_103) E hw106 inX12 0 25 q_1424 rfl rfl (by decide) rfl rfl dX12_reads_140 ?_
                            refine lv_iconst (pc := 143) (v := (-1)) E.1 E.2.1 dX12_reads_143 (by decide +kernel) ?_
                            refine lv_icmp_eq (pc := 144) (tgt := 273) E.1 E.2.1 dX12_reads_144 (by decide) (fun c_107 => ?_) (fun c_107 => ?_)
                            · skip
                              have hc_107 := eqE (a := r_103.toInt) (b := (-1)) rfl (by decide +kernel) c_107
                              exact em_v (w1 := (fun (u : Int32 × Int32 × Int32 × Int32) => (MW cI cJ M mr (upd (upd (upd (upd mi 22 u.1) 23 u.2.1) 24 u.2.2.1) 25 u.2.2.2) mf mg))) E hr hlk (x_81, x_5, 1, r_103) hw106 ⟨(by show 0 ≤ x_5.toInt; have k_0 : (1 : Int32).toInt = 1 := (by decide +kernel); omega), (by show x_5.toInt ≤ x_81.toInt; have k_0 : (1 : Int32).toInt = 1 := (by decide +kernel); omega), (by show x_81.toInt ≤ (mi 21).toInt; have k_0 : (1 : Int32).toInt = 1 := (by decide +kernel); omega), (by show 0 ≤ (1 : Int32).toInt; have k_0 : (1 : Int32).toInt = 1 := (by decide +kernel); omega), (by show (1 : Int32).toInt ≤ 4; have k_0 : (1 : Int32).toInt = 1 := (by decide +kernel); omega), (by show (1 : Int32).toInt ≤ 4 * x_81.toInt - 4 * x_5.toInt; have k_0 : (1 : Int32).toInt = 1 := (by decide +kernel); omega), (by show (mi 22).toInt ≤ x_5.toInt; have k_0 : (1 : Int32).toInt = 1 := (by decide +kernel); omega)⟩ (Nat.le_of_ble_eq_true rfl) (Nat.le_of_ble_eq_true rfl) dX12_reads_273
                            · skip
                              have hc_107 := neE (a := r_103.toInt) (b := (-1)) rfl (by decide +kernel) c_107
                              refine lv_aload_n (pc := 147) E.1 E.2.1 dX12_reads_147 rfl (lv_at hl84 1 rfl) ?_
                              refine lv_iconst (pc := 148) (v := 2) E.1 E.2.1 dX12_reads_148 (by decide +kernel) ?_
                              refine x_put (pc := 149) (T := TX12) (N := 70) (ci := 12) (ws' := (MW cI cJ M mr (upd (upd (upd (upd mi 22 x_81) 23 x_5) 24 2) 25 r_103) mf mg)) E hw106 inX12 tyX12_ok nmX12 0 24 q_1423 rfl rfl (by decide) rfl rfl rfl rfl (Nat.le_of_ble_eq_true rfl) rfl dX12_reads_149 (fun H locs hw108 => ?_)
                              refine lv_goto (pc := 152) (tgt := 273) E.1 E.2.1 dX12_reads_152 (by decide) ?_
                              exact em_v (w1 := (fun (u : Int32 × Int32 × Int32 × Int32) => (MW cI cJ M mr (upd (upd (upd (upd mi 22 u.1) 23 u.2.1) 24 u.2.2.1) 25 u.2.2.2) mf mg))) E hr hlk (x_81, x_5, 2, r_103) hw108 ⟨(by show 0 ≤ x_5.toInt; have k_0 : (2 : Int32).toInt = 2 := (by decide +kernel); omega), (by show x_5.toInt ≤ x_81.toInt; have k_0 : (2 : Int32).toInt = 2 := (by decide +kernel); omega), (by show x_81.toInt ≤ (mi 21).toInt; have k_0 : (2 : Int32).toInt = 2 := (by decide +kernel); omega), (by show 0 ≤ (2 : Int32).toInt; have k_0 : (2 : Int32).toInt = 2 := (by decide +kernel); omega), (by show (2 : Int32).toInt ≤ 4; have k_0 : (2 : Int32).toInt = 2 := (by decide +kernel); omega), (by show (2 : Int32).toInt ≤ 4 * x_81.toInt - 4 * x_5.toInt; have k_0 : (2 : Int32).toInt = 2 := (by decide +kernel); omega), (by show (mi 22).toInt ≤ x_5.toInt; have k_0 : (2 : Int32).toInt = 2 := (by decide +kernel); omega)⟩ (Nat.le_of_ble_eq_true rfl) (Nat.le_of_ble_eq_true rfl) dX12_reads_273
                        · skip
                          have ha_93 : x_81.toInt ≤ (mi 21).toInt - 1 := ha_93
                          refine cm_i (pc := 104) hw88 (rn_M (As := [.int r_86]) (rest := []) E hw88 (s_isLetter2 l D cI cJ _ M mr (upd (upd (upd (upd mi 22 x_81) 23 x_5) 24 1) 25 r_59) mf mg r_86) (gdV q_1674 q_1676 q_54 q_162 q_1677) hdV_X12_isLetter ⟨rfl, rfl⟩ ⟨(Nat.le_of_ble_eq_true rfl), (Nat.le_of_ble_eq_true rfl)⟩ ⟨(Nat.le_of_ble_eq_true rfl), (Nat.le_of_ble_eq_true rfl)⟩ 12 rfl rfl rfl rfl hl84.1 rfl (Nat.le_of_ble_eq_true rfl) dX12_reads_104) (fun r_110 u_109 H1 locs hp hw111 => ?_)
                          generalize H1 = H at hw111 ⊢
                          have hw112 : WD D A s.heap (MW cI cJ M mr (upd (upd (upd (upd mi 22 x_81) 23 x_5) 24 1) 25 r_59) mf mg) H locs := hw111
                          have hp_113 := hp
                          rcases hp_113 with ⟨rfl, ha_114, ha_115⟩ | rfl
                          · skip
                            have ha_114 : 65 ≤ r_86.toInt := ha_114
                            have ha_115 : r_86.toInt ≤ 122 := ha_115
                            refine lv_if_eq (pc := 107) (tgt := 123) E.1 E.2.1 dX12_reads_107 (by decide) (fun c_116 => absurd c_116 (mneE (a := 1) (b := 0) (by decide +kernel) (by decide +kernel) (by omega))) (fun _ => ?_)
                            refine lv_aload_n (pc := 110) E.1 E.2.1 dX12_reads_110 rfl (lv_at hl84 1 rfl) ?_
                            refine lv_aload_n (pc := 111) E.1 E.2.1 dX12_reads_111 rfl (lv_at hl84 1 rfl) ?_
                            refine x_get (pc := 112) (T := TX12) (N := 70) (ci := 12) (v := .int x_81) E hw112 inX12 0 22 q_1421 rfl rfl (by decide) rfl rfl dX12_reads_112 ?_
                            refine lv_iconst (pc := 115) (v := 1) E.1 E.2.1 dX12_reads_115 (by decide +kernel) ?_
                            refine lv_iadd (pc := 116) E.1 E.2.1 dX12_reads_116 ?_
                            refine lv_topi (fun v_117 ev_117 => ?_)
                            have hv_117 : v_117.toInt = x_81.toInt + 1 := by rw [ev_117]; exact addE rfl (by decide +kernel) (by omega)
                            refine x_put (pc := 117) (T := TX12) (N := 70) (ci := 12) (ws' := (MW cI cJ M mr (upd (upd (upd (upd mi 22 v_117) 23 x_5) 24 1) 25 r_59) mf mg)) E hw112 inX12 tyX12_ok nmX12 0 22 q_1421 rfl rfl (by decide) rfl rfl rfl rfl (Nat.le_of_ble_eq_true rfl) rfl dX12_reads_117 (fun H locs hw118 => ?_)
                            refine lv_goto (pc := 120) (tgt := 95) E.1 E.2.1 dX12_reads_120 (by decide) ?_
                            exact ih_82 v_117 _ _ _ ⟨(by show x_5.toInt + 1 ≤ v_117.toInt; omega), (by show v_117.toInt ≤ (mi 21).toInt; omega), (LT_step (i := x_81) (v := r_86) hi_81_2 (hp_89 (by omega)) (by omega) (by omega) (by omega) (by omega))⟩ (by omega) hw118 (lv_sub hl84 [0, 1] rfl)
                          · skip
                            refine lv_if_eq (pc := 107) (tgt := 123) E.1 E.2.1 dX12_reads_107 (by decide) (fun _ => ?_) (fun c_119 => absurd (meqE (a := 0) (b := 0) (by decide +kernel) (by decide +kernel) (by omega)) c_119)
                            refine lv_aload_n (pc := 123) E.1 E.2.1 dX12_reads_123 rfl (lv_at hl84 1 rfl) ?_
                            refine lv_aload_n (pc := 124) E.1 E.2.1 dX12_reads_124 rfl (lv_at hl84 1 rfl) ?_
                            refine lv_aload_n (pc := 125) E.1 E.2.1 dX12_reads_125 rfl (lv_at hl84 1 rfl) ?_
                            refine x_get (pc := 126) (T := TX12) (N := 70) (ci := 12) (v := .int x_5) E hw112 inX12 0 23 q_1422 rfl rfl (by decide) rfl rfl dX12_reads_126 ?_
                            refine lv_aload_n (pc := 129) E.1 E.2.1 dX12_reads_129 rfl (lv_at hl84 1 rfl) ?_
                            refine x_get (pc := 130) (T := TX12) (N := 70) (ci := 12) (v := .int x_81) E hw112 inX12 0 22 q_1421 rfl rfl (by decide) rfl rfl dX12_reads_130 ?_
                            refine cm_i (pc := 133) hw112 (rn_M (As := [.int x_5, .int x_81]) (rest := [.ref M]) E hw112 (s_wordAt l D cI cJ _ M mr (upd (upd (upd (upd mi 22 x_81) 23 x_5) 24 1) 25 r_59) mf mg x_5 x_81 (by show 0 ≤ x_5.toInt; omega) (by show x_5.toInt ≤ x_81.toInt; omega) (by show x_81.toInt ≤ 400; omega) (by show ((mf 26) 153).toInt = 32; omega) (show LT (mf 20) (x_5).toInt (x_81).toInt from hi_81_2)) (gdV q_1678 q_1680 q_55 q_162 q_1681) hdV_X12_wordAt ⟨rfl, rfl⟩ ⟨(Nat.le_of_ble_eq_true rfl), (Nat.le_of_ble_eq_true rfl)⟩ ⟨(Nat.le_of_ble_eq_true rfl), (Nat.le_of_ble_eq_true rfl)⟩ 12 rfl rfl rfl rfl hl84.1 rfl (Nat.le_of_ble_eq_true rfl) dX12_reads_133) (fun r_121 u_120 H1 locs hp hw122 => ?_)
                            generalize H1 = H at hw122 ⊢
                            have hw123 : WD D A s.heap (MW cI cJ M mr (upd (upd (upd (upd mi 22 x_81) 23 x_5) 24 1) 25 r_59) mf mg) H locs := hw122
                            refine x_put (pc := 136) (T := TX12) (N := 70) (ci := 12) (ws' := (MW cI cJ M mr (upd (upd (upd (upd mi 22 x_81) 23 x_5) 24 1) 25 r_121) mf mg)) E hw123 inX12 tyX12_ok nmX12 0 25 q_1424 rfl rfl (by decide) rfl rfl rfl rfl (Nat.le_of_ble_eq_true rfl) rfl dX12_reads_136 (fun H locs hw124 => ?_)
                            refine lv_aload_n (pc := 139) E.1 E.2.1 dX12_reads_139 rfl (lv_at hl84 1 rfl) ?_
                            refine x_get (pc := 140) (T := TX12) (N := 70) (ci := 12) (v := .int r_121) E hw124 inX12 0 25 q_1424 rfl rfl (by decide) rfl rfl dX12_reads_140 ?_
                            refine lv_iconst (pc := 143) (v := (-1)) E.1 E.2.1 dX12_reads_143 (by decide +kernel) ?_
                            refine lv_icmp_eq (pc := 144) (tgt := 273) E.1 E.2.1 dX12_reads_144 (by decide) (fun c_125 => ?_) (fun c_125 => ?_)
                            · skip
                              have hc_125 := eqE (a := r_121.toInt) (b := (-1)) rfl (by decide +kernel) c_125
                              exact em_v (w1 := (fun (u : Int32 × Int32 × Int32 × Int32) => (MW cI cJ M mr (upd (upd (upd (upd mi 22 u.1) 23 u.2.1) 24 u.2.2.1) 25 u.2.2.2) mf mg))) E hr hlk (x_81, x_5, 1, r_121) hw124 ⟨(by show 0 ≤ x_5.toInt; have k_0 : (1 : Int32).toInt = 1 := (by decide +kernel); omega), (by show x_5.toInt ≤ x_81.toInt; have k_0 : (1 : Int32).toInt = 1 := (by decide +kernel); omega), (by show x_81.toInt ≤ (mi 21).toInt; have k_0 : (1 : Int32).toInt = 1 := (by decide +kernel); omega), (by show 0 ≤ (1 : Int32).toInt; have k_0 : (1 : Int32).toInt = 1 := (by decide +kernel); omega), (by show (1 : Int32).toInt ≤ 4; have k_0 : (1 : Int32).toInt = 1 := (by decide +kernel); omega), (by show (1 : Int32).toInt ≤ 4 * x_81.toInt - 4 * x_5.toInt; have k_0 : (1 : Int32).toInt = 1 := (by decide +kernel); omega), (by show (mi 22).toInt ≤ x_5.toInt; have k_0 : (1 : Int32).toInt = 1 := (by decide +kernel); omega)⟩ (Nat.le_of_ble_eq_true rfl) (Nat.le_of_ble_eq_true rfl) dX12_reads_273
                            · skip
                              have hc_125 := neE (a := r_121.toInt) (b := (-1)) rfl (by decide +kernel) c_125
                              refine lv_aload_n (pc := 147) E.1 E.2.1 dX12_reads_147 rfl (lv_at hl84 1 rfl) ?_
                              refine lv_iconst (pc := 148) (v := 2) E.1 E.2.1 dX12_reads_148 (by decide +kernel) ?_
                              refine x_put (pc := 149) (T := TX12) (N := 70) (ci := 12) (ws' := (MW cI cJ M mr (upd (upd (upd (upd mi 22 x_81) 23 x_5) 24 2) 25 r_121) mf mg)) E hw124 inX12 tyX12_ok nmX12 0 24 q_1423 rfl rfl (by decide) rfl rfl rfl rfl (Nat.le_of_ble_eq_true rfl) rfl dX12_reads_149 (fun H locs hw126 => ?_)
                              refine lv_goto (pc := 152) (tgt := 273) E.1 E.2.1 dX12_reads_152 (by decide) ?_
                              exact em_v (w1 := (fun (u : Int32 × Int32 × Int32 × Int32) => (MW cI cJ M mr (upd (upd (upd (upd mi 22 u.1) 23 u.2.1) 24 u.2.2.1) 25 u.2.2.2) mf mg))) E hr hlk (x_81, x_5, 2, r_121) hw126 ⟨(by show 0 ≤ x_5.toInt; have k_0 : (2 : Int32).toInt = 2 := (by decide +kernel); omega), (by show x_5.toInt ≤ x_81.toInt; have k_0 : (2 : Int32).toInt = 2 := (by decide +kernel); omega), (by show x_81.toInt ≤ (mi 21).toInt; have k_0 : (2 : Int32).toInt = 2 := (by decide +kernel); omega), (by show 0 ≤ (2 : Int32).toInt; have k_0 : (2 : Int32).toInt = 2 := (by decide +kernel); omega), (by show (2 : Int32).toInt ≤ 4; have k_0 : (2 : Int32).toInt = 2 := (by decide +kernel); omega), (by show (2 : Int32).toInt ≤ 4 * x_81.toInt - 4 * x_5.toInt; have k_0 : (2 : Int32).toInt = 2 := (by decide +kernel); omega), (by show (mi 22).toInt ≤ x_5.toInt; have k_0 : (2 : Int32).toInt = 2 := (by decide +kernel); omega)⟩ (Nat.le_of_ble_eq_true rfl) (Nat.le_of_ble_eq_true rfl) dX12_reads_273
                    exact loop_80 (Int.toNat ((mi 21).toInt - v_69.toInt) + 1) v_69 _ _ _ ⟨(by show x_5.toInt + 1 ≤ v_69.toInt; omega), (by show v_69.toInt ≤ (mi 21).toInt; omega), (LT_one (i := x_5) (v := r_59) (hp_62 (by omega)) (by omega) (by omega) (by omega) (by omega))⟩ (by omega) hw75 (lv_sub hl67 [0, 1] rfl)
                  · skip
                    refine lv_if_eq (pc := 92) (tgt := 155) E.1 E.2.1 dX12_reads_92 (by decide) (fun _ => ?_) (fun c_127 => absurd (meqE (a := 0) (b := 0) (by decide +kernel) (by decide +kernel) (by omega)) c_127)
                    refine lv_aload_n (pc := 155) E.1 E.2.1 dX12_reads_155 rfl (lv_at hl67 1 rfl) ?_
                    refine lv_iload_n (pc := 156) E.1 E.2.1 dX12_reads_156 rfl (lv_at hl67 0 rfl) ?_
                    refine cm_i (pc := 157) hw75 (rn_M (As := [.int r_59]) (rest := []) E hw75 (s_isDigit2 l D cI cJ _ M mr (upd (upd (upd (upd mi 22 v_69) 23 x_5) 24 1) 25 r_59) mf mg r_59) (gdV q_1682 q_1684 q_56 q_162 q_1685) hdV_X12_isDigit ⟨rfl, rfl⟩ ⟨(Nat.le_of_ble_eq_true rfl), (Nat.le_of_ble_eq_true rfl)⟩ ⟨(Nat.le_of_ble_eq_true rfl), (Nat.le_of_ble_eq_true rfl)⟩ 12 rfl rfl rfl rfl hl67.1 rfl (Nat.le_of_ble_eq_true rfl) dX12_reads_157) (fun r_129 u_128 H1 locs hp hw130 => ?_)
                    generalize H1 = H at hw130 ⊢
                    have hw131 : WD D A s.heap (MW cI cJ M mr (upd (upd (upd (upd mi 22 v_69) 23 x_5) 24 1) 25 r_59) mf mg) H locs := hw130
                    have hp_132 := hp
                    rcases hp_132 with ⟨rfl, ha_133, ha_134⟩ | rfl
                    · skip
                      have ha_133 : 48 ≤ r_59.toInt := ha_133
                      have ha_134 : r_59.toInt ≤ 57 := ha_134
                      refine lv_if_eq (pc := 160) (tgt := 260) E.1 E.2.1 dX12_reads_160 (by decide) (fun c_135 => absurd c_135 (mneE (a := 1) (b := 0) (by decide +kernel) (by decide +kernel) (by omega))) (fun _ => ?_)
                      refine lv_aload_n (pc := 163) E.1 E.2.1 dX12_reads_163 rfl (lv_at hl67 1 rfl) ?_
                      refine lv_iload_n (pc := 164) E.1 E.2.1 dX12_reads_164 rfl (lv_at hl67 0 rfl) ?_
                      refine lv_bipush (pc := 165) (v := 48) E.1 E.2.1 dX12_reads_165 (by decide +kernel) ?_
                      refine lv_isub (pc := 167) E.1 E.2.1 dX12_reads_167 ?_
                      refine lv_topi (fun v_136 ev_136 => ?_)
                      have hv_136 : v_136.toInt = r_59.toInt - 48 := by rw [ev_136]; exact subE rfl (by decide +kernel) (by omega)
                      refine x_put (pc := 168) (T := TX12) (N := 70) (ci := 12) (ws' := (MW cI cJ M mr (upd (upd (upd (upd mi 22 v_69) 23 x_5) 24 1) 25 v_136) mf mg)) E hw131 inX12 tyX12_ok nmX12 0 25 q_1424 rfl rfl (by decide) rfl rfl rfl rfl (Nat.le_of_ble_eq_true rfl) rfl dX12_reads_168 (fun H locs hw137 => ?_)
                      have loop_138 : ∀ (k : Nat) (x_139 : Int32) (x_140 : Int32) (H : Heap) (locs : List Loc) (ls : Array Slot), (x_5.toInt + 1 ≤ x_139.toInt) ∧ (x_139.toInt ≤ (mi 21).toInt) → (mi 21).toInt - x_139.toInt < (k : Int) → WD D A s.heap (MW cI cJ M mr (upd (upd (upd (upd mi 22 x_139) 23 x_5) 24 1) 25 x_140) mf mg) H locs → lv_has ls 2 [(1, .int r_59), (0, .ref M)] → W p l e ({ frames := 3, cells := 0, slots := 0, locals := 84 } : Room) s m ([.ref M] : List Value).toArray below meth c H locs 0 0 (MQ below (va_Qv (fun (u : Int32 × Int32 × Int32 × Int32) => (0 ≤ u.2.1.toInt) ∧ (u.2.1.toInt ≤ u.1.toInt) ∧ (u.1.toInt ≤ (mi 21).toInt) ∧ (0 ≤ u.2.2.1.toInt) ∧ (u.2.2.1.toInt ≤ 4) ∧ (u.2.2.1.toInt ≤ 4 * u.1.toInt - 4 * u.2.1.toInt) ∧ ((mi 22).toInt ≤ u.2.1.toInt)) (fun u => QW D cI cJ A ((fun (u : Int32 × Int32 × Int32 × Int32) => (MW cI cJ M mr (upd (upd (upd (upd mi 22 u.1) 23 u.2.1) 24 u.2.2.1) 25 u.2.2.2) mf mg)) u)) A) ([.ref M] : List Value).toArray s 0 0 A) (F0 m 171 ls []) := by
                        intro k
                        induction k with
                        | zero =>
                          intro x_139 x_140 _ _ _ hinv hm
                          obtain ⟨hi_140_0, hi_140_1⟩ := hinv
                          exact absurd hm (by omega)
                        | succ k ih_141 =>
                          intro x_139 x_140 H locs ls hinv hm hw142 hl143
                          obtain ⟨hi_140_0, hi_140_1⟩ := hinv
                          refine lv_aload_n (pc := 171) E.1 E.2.1 dX12_reads_171 rfl (lv_at hl143 1 rfl) ?_
                          refine lv_aload_n (pc := 172) E.1 E.2.1 dX12_reads_172 rfl (lv_at hl143 1 rfl) ?_
                          refine lv_aload_n (pc := 173) E.1 E.2.1 dX12_reads_173 rfl (lv_at hl143 1 rfl) ?_
                          refine x_get (pc := 174) (T := TX12) (N := 70) (ci := 12) (v := .int x_139) E hw142 inX12 0 22 q_1421 rfl rfl (by decide) rfl rfl dX12_reads_174 ?_
                          refine cm_i (pc := 177) hw142 (rn_M (As := [.int x_139]) (rest := [.ref M]) E hw142 (s_raw3 l D cI cJ _ M mr (upd (upd (upd (upd mi 22 x_139) 23 x_5) 24 1) 25 x_140) mf mg x_139 (by show 0 ≤ x_139.toInt; omega) (by show 0 ≤ (mi 21).toInt ∧ (mi 21).toInt ≤ 400; omega)) (gdV q_1670 q_1672 q_53 q_162 q_1673) hdV_X12_raw ⟨rfl, rfl⟩ ⟨(Nat.le_of_ble_eq_true rfl), (Nat.le_of_ble_eq_true rfl)⟩ ⟨(Nat.le_of_ble_eq_true rfl), (Nat.le_of_ble_eq_true rfl)⟩ 12 rfl rfl rfl rfl hl143.1 rfl (Nat.le_of_ble_eq_true rfl) dX12_reads_177) (fun r_145 u_144 H1 locs hp hw146 => ?_)
                          generalize H1 = H at hw146 ⊢
                          have hw147 : WD D A s.heap (MW cI cJ M mr (upd (upd (upd (upd mi 22 x_139) 23 x_5) 24 1) 25 x_140) mf mg) H locs := hw146
                          obtain ⟨hp_148, hp_149⟩ := hp
                          have hp_148 : (x_139).toInt < (mi 21).toInt → r_145 = (mf 20) (x_139).toNatClampNeg := hp_148
                          rcases hp_149 with ⟨ha_150, ha_151⟩ | ha_152
                          · skip
                            have ha_150 : (mi 21).toInt ≤ x_139.toInt := ha_150
                            have ha_151 : r_145.toInt = (-1) := ha_151
                            refine cm_i (pc := 180) hw147 (rn_M (As := [.int r_145]) (rest := []) E hw147 (s_isDigit2 l D cI cJ _ M mr (upd (upd (upd (upd mi 22 x_139) 23 x_5) 24 1) 25 x_140) mf mg r_145) (gdV q_1682 q_1684 q_56 q_162 q_1685) hdV_X12_isDigit ⟨rfl, rfl⟩ ⟨(Nat.le_of_ble_eq_true rfl), (Nat.le_of_ble_eq_true rfl)⟩ ⟨(Nat.le_of_ble_eq_true rfl), (Nat.le_of_ble_eq_true rfl)⟩ 12 rfl rfl rfl rfl hl143.1 rfl (Nat.le_of_ble_eq_true rfl) dX12_reads_180) (fun r_154 u_153 H1 locs hp hw155 => ?_)
                            generalize H1 = H at hw155 ⊢
                            have hw156 : WD D A s.heap (MW cI cJ M mr (upd (upd (upd (upd mi 22 x_139) 23 x_5) 24 1) 25 x_140) mf mg) H locs := hw155
                            have hp_157 := hp
                            rcases hp_157 with ⟨rfl, ha_158, ha_159⟩ | rfl
                            · skip
                              have ha_158 : 48 ≤ r_145.toInt := ha_158
                              have ha_159 : r_145.toInt ≤ 57 := ha_159
                              exfalso; omega
                            · skip
                              refine lv_if_eq (pc := 183) (tgt := 239) E.1 E.2.1 dX12_reads_183 (by decide) (fun _ => ?_) (fun c_160 => absurd (meqE (a := 0) (b := 0) (by decide +kernel) (by decide +kernel) (by omega)) c_160)
                              refine lv_aload_n (pc := 239) E.1 E.2.1 dX12_reads_239 rfl (lv_at hl143 1 rfl) ?_
                              refine x_get (pc := 240) (T := TX12) (N := 70) (ci := 12) (v := .int x_139) E hw156 inX12 0 22 q_1421 rfl rfl (by decide) rfl rfl dX12_reads_240 ?_
                              refine lv_aload_n (pc := 243) E.1 E.2.1 dX12_reads_243 rfl (lv_at hl143 1 rfl) ?_
                              refine x_get (pc := 244) (T := TX12) (N := 70) (ci := 12) (v := .int x_5) E hw156 inX12 0 23 q_1422 rfl rfl (by decide) rfl rfl dX12_reads_244 ?_
                              refine lv_isub (pc := 247) E.1 E.2.1 dX12_reads_247 ?_
                              refine lv_topi (fun v_161 ev_161 => ?_)
                              have hv_161 : v_161.toInt = x_139.toInt - x_5.toInt := by rw [ev_161]; exact subE rfl rfl (by omega)
                              refine lv_iconst (pc := 248) (v := 5) E.1 E.2.1 dX12_reads_248 (by decide +kernel) ?_
                              refine lv_icmp_ge (pc := 249) (tgt := 273) E.1 E.2.1 dX12_reads_249 (by decide) (fun c_162 => ?_) (fun c_162 => ?_)
                              · skip
                                have hc_162 := leE (a := 5) (b := v_161.toInt) (by decide +kernel) rfl c_162
                                exact em_v (w1 := (fun (u : Int32 × Int32 × Int32 × Int32) => (MW cI cJ M mr (upd (upd (upd (upd mi 22 u.1) 23 u.2.1) 24 u.2.2.1) 25 u.2.2.2) mf mg))) E hr hlk (x_139, x_5, 1, x_140) hw156 ⟨(by show 0 ≤ x_5.toInt; have k_0 : (1 : Int32).toInt = 1 := (by decide +kernel); omega), (by show x_5.toInt ≤ x_139.toInt; have k_0 : (1 : Int32).toInt = 1 := (by decide +kernel); omega), (by show x_139.toInt ≤ (mi 21).toInt; have k_0 : (1 : Int32).toInt = 1 := (by decide +kernel); omega), (by show 0 ≤ (1 : Int32).toInt; have k_0 : (1 : Int32).toInt = 1 := (by decide +kernel); omega), (by show (1 : Int32).toInt ≤ 4; have k_0 : (1 : Int32).toInt = 1 := (by decide +kernel); omega), (by show (1 : Int32).toInt ≤ 4 * x_139.toInt - 4 * x_5.toInt; have k_0 : (1 : Int32).toInt = 1 := (by decide +kernel); omega), (by show (mi 22).toInt ≤ x_5.toInt; have k_0 : (1 : Int32).toInt = 1 := (by decide +kernel); omega)⟩ (Nat.le_of_ble_eq_true rfl) (Nat.le_of_ble_eq_true rfl) dX12_reads_273
                              · skip
                                have hc_162 := nleE (a := 5) (b := v_161.toInt) (by decide +kernel) rfl c_162
                                refine lv_aload_n (pc := 252) E.1 E.2.1 dX12_reads_252 rfl (lv_at hl143 1 rfl) ?_
                                refine lv_iconst (pc := 253) (v := 3) E.1 E.2.1 dX12_reads_253 (by decide +kernel) ?_
                                refine x_put (pc := 254) (T := TX12) (N := 70) (ci := 12) (ws' := (MW cI cJ M mr (upd (upd (upd (upd mi 22 x_139) 23 x_5) 24 3) 25 x_140) mf mg)) E hw156 inX12 tyX12_ok nmX12 0 24 q_1423 rfl rfl (by decide) rfl rfl rfl rfl (Nat.le_of_ble_eq_true rfl) rfl dX12_reads_254 (fun H locs hw163 => ?_)
                                refine lv_goto (pc := 257) (tgt := 273) E.1 E.2.1 dX12_reads_257 (by decide) ?_
                                exact em_v (w1 := (fun (u : Int32 × Int32 × Int32 × Int32) => (MW cI cJ M mr (upd (upd (upd (upd mi 22 u.1) 23 u.2.1) 24 u.2.2.1) 25 u.2.2.2) mf mg))) E hr hlk (x_139, x_5, 3, x_140) hw163 ⟨(by show 0 ≤ x_5.toInt; have k_0 : (3 : Int32).toInt = 3 := (by decide +kernel); omega), (by show x_5.toInt ≤ x_139.toInt; have k_0 : (3 : Int32).toInt = 3 := (by decide +kernel); omega), (by show x_139.toInt ≤ (mi 21).toInt; have k_0 : (3 : Int32).toInt = 3 := (by decide +kernel); omega), (by show 0 ≤ (3 : Int32).toInt; have k_0 : (3 : Int32).toInt = 3 := (by decide +kernel); omega), (by show (3 : Int32).toInt ≤ 4; have k_0 : (3 : Int32).toInt = 3 := (by decide +kernel); omega), (by show (3 : Int32).toInt ≤ 4 * x_139.toInt - 4 * x_5.toInt; have k_0 : (3 : Int32).toInt = 3 := (by decide +kernel); omega), (by show (mi 22).toInt ≤ x_5.toInt; have k_0 : (3 : Int32).toInt = 3 := (by decide +kernel); omega)⟩ (Nat.le_of_ble_eq_true rfl) (Nat.le_of_ble_eq_true rfl) dX12_reads_273
                          · skip
                            have ha_152 : x_139.toInt ≤ (mi 21).toInt - 1 := ha_152
                            refine cm_i (pc := 180) hw147 (rn_M (As := [.int r_145]) (rest := []) E hw147 (s_isDigit2 l D cI cJ _ M mr (upd (upd (upd (upd mi 22 x_139) 23 x_5) 24 1) 25 x_140) mf mg r_145) (gdV q_1682 q_1684 q_56 q_162 q_1685) hdV_X12_isDigit ⟨rfl, rfl⟩ ⟨(Nat.le_of_ble_eq_true rfl), (Nat.le_of_ble_eq_true rfl)⟩ ⟨(Nat.le_of_ble_eq_true rfl), (Nat.le_of_ble_eq_true rfl)⟩ 12 rfl rfl rfl rfl hl143.1 rfl (Nat.le_of_ble_eq_true rfl) dX12_reads_180) (fun r_165 u_164 H1 locs hp hw166 => ?_)
                            generalize H1 = H at hw166 ⊢
                            have hw167 : WD D A s.heap (MW cI cJ M mr (upd (upd (upd (upd mi 22 x_139) 23 x_5) 24 1) 25 x_140) mf mg) H locs := hw166
                            have hp_168 := hp
                            rcases hp_168 with ⟨rfl, ha_169, ha_170⟩ | rfl
                            · skip
                              have ha_169 : 48 ≤ r_145.toInt := ha_169
                              have ha_170 : r_145.toInt ≤ 57 := ha_170
                              refine lv_if_eq (pc := 183) (tgt := 239) E.1 E.2.1 dX12_reads_183 (by decide) (fun c_171 => absurd c_171 (mneE (a := 1) (b := 0) (by decide +kernel) (by decide +kernel) (by omega))) (fun _ => ?_)
                              refine lv_aload_n (pc := 186) E.1 E.2.1 dX12_reads_186 rfl (lv_at hl143 1 rfl) ?_
                              refine lv_aload_n (pc := 187) E.1 E.2.1 dX12_reads_187 rfl (lv_at hl143 1 rfl) ?_
                              refine x_get (pc := 188) (T := TX12) (N := 70) (ci := 12) (v := .int x_140) E hw167 inX12 0 25 q_1424 rfl rfl (by decide) rfl rfl dX12_reads_188 ?_
                              refine lv_sipush (pc := 191) (v := 10000) E.1 E.2.1 dX12_reads_191 (by decide +kernel) ?_
                              refine lv_icmp_ge (pc := 194) (tgt := 219) E.1 E.2.1 dX12_reads_194 (by decide) (fun c_172 => ?_) (fun c_172 => ?_)
                              · skip
                                have hc_172 := leE (a := 10000) (b := x_140.toInt) (by decide +kernel) rfl c_172
                                refine lv_aload_n (pc := 219) E.1 E.2.1 dX12_reads_219 rfl (lv_at hl143 1 rfl) ?_
                                refine x_get (pc := 220) (T := TX12) (N := 70) (ci := 12) (v := .int x_140) E hw167 inX12 0 25 q_1424 rfl rfl (by decide) rfl rfl dX12_reads_220 ?_
                                refine x_put (pc := 223) (T := TX12) (N := 70) (ci := 12) (ws' := (MW cI cJ M mr (upd (upd (upd (upd mi 22 x_139) 23 x_5) 24 1) 25 x_140) mf mg)) E hw167 inX12 tyX12_ok nmX12 0 25 q_1424 rfl rfl (by decide) rfl rfl rfl rfl (Nat.le_of_ble_eq_true rfl) rfl dX12_reads_223 (fun H locs hw173 => ?_)
                                refine lv_aload_n (pc := 226) E.1 E.2.1 dX12_reads_226 rfl (lv_at hl143 1 rfl) ?_
                                refine lv_aload_n (pc := 227) E.1 E.2.1 dX12_reads_227 rfl (lv_at hl143 1 rfl) ?_
                                refine x_get (pc := 228) (T := TX12) (N := 70) (ci := 12) (v := .int x_139) E hw173 inX12 0 22 q_1421 rfl rfl (by decide) rfl rfl dX12_reads_228 ?_
                                refine lv_iconst (pc := 231) (v := 1) E.1 E.2.1 dX12_reads_231 (by decide +kernel) ?_
                                refine lv_iadd (pc := 232) E.1 E.2.1 dX12_reads_232 ?_
                                refine lv_topi (fun v_174 ev_174 => ?_)
                                have hv_174 : v_174.toInt = x_139.toInt + 1 := by rw [ev_174]; exact addE rfl (by decide +kernel) (by omega)
                                refine x_put (pc := 233) (T := TX12) (N := 70) (ci := 12) (ws' := (MW cI cJ M mr (upd (upd (upd (upd mi 22 v_174) 23 x_5) 24 1) 25 x_140) mf mg)) E hw173 inX12 tyX12_ok nmX12 0 22 q_1421 rfl rfl (by decide) rfl rfl rfl rfl (Nat.le_of_ble_eq_true rfl) rfl dX12_reads_233 (fun H locs hw175 => ?_)
                                refine lv_goto (pc := 236) (tgt := 171) E.1 E.2.1 dX12_reads_236 (by decide) ?_
                                exact ih_141 v_174 x_140 _ _ _ ⟨(by show x_5.toInt + 1 ≤ v_174.toInt; omega), (by show v_174.toInt ≤ (mi 21).toInt; omega)⟩ (by omega) hw175 (lv_sub hl143 [0, 1] rfl)
                              · skip
                                have hc_172 := nleE (a := 10000) (b := x_140.toInt) (by decide +kernel) rfl c_172
                                refine lv_bipush (pc := 197) (v := 10) E.1 E.2.1 dX12_reads_197 (by decide +kernel) ?_
                                refine lv_aload_n (pc := 199) E.1 E.2.1 dX12_reads_199 rfl (lv_at hl143 1 rfl) ?_
                                refine x_get (pc := 200) (T := TX12) (N := 70) (ci := 12) (v := .int x_140) E hw167 inX12 0 25 q_1424 rfl rfl (by decide) rfl rfl dX12_reads_200 ?_
                                refine lv_imul (pc := 203) E.1 E.2.1 dX12_reads_203 ?_
                                refine lv_topi (fun v_176 ev_176 => ?_)
                                refine lv_aload_n (pc := 204) E.1 E.2.1 dX12_reads_204 rfl (lv_at hl143 1 rfl) ?_
                                refine lv_aload_n (pc := 205) E.1 E.2.1 dX12_reads_205 rfl (lv_at hl143 1 rfl) ?_
                                refine x_get (pc := 206) (T := TX12) (N := 70) (ci := 12) (v := .int x_139) E hw167 inX12 0 22 q_1421 rfl rfl (by decide) rfl rfl dX12_reads_206 ?_
                                refine cm_i (pc := 209) hw167 (rn_M (As := [.int x_139]) (rest := [.int v_176, .ref M]) E hw167 (s_raw3 l D cI cJ _ M mr (upd (upd (upd (upd mi 22 x_139) 23 x_5) 24 1) 25 x_140) mf mg x_139 (by show 0 ≤ x_139.toInt; omega) (by show 0 ≤ (mi 21).toInt ∧ (mi 21).toInt ≤ 400; omega)) (gdV q_1670 q_1672 q_53 q_162 q_1673) hdV_X12_raw ⟨rfl, rfl⟩ ⟨(Nat.le_of_ble_eq_true rfl), (Nat.le_of_ble_eq_true rfl)⟩ ⟨(Nat.le_of_ble_eq_true rfl), (Nat.le_of_ble_eq_true rfl)⟩ 12 rfl rfl rfl rfl hl143.1 rfl (Nat.le_of_ble_eq_true rfl) dX12_reads_209) (fun r_178 u_177 H1 locs hp hw179 => ?_)
                                generalize H1 = H at hw179 ⊢
                                have hw180 : WD D A s.heap (MW cI cJ M mr (upd (upd (upd (upd mi 22 x_139) 23 x_5) 24 1) 25 x_140) mf mg) H locs := hw179
                                obtain ⟨hp_181, hp_182⟩ := hp
                                have hp_181 : (x_139).toInt < (mi 21).toInt → r_178 = (mf 20) (x_139).toNatClampNeg := hp_181
                                rcases hp_182 with ⟨ha_183, ha_184⟩ | ha_185
                                · skip
                                  have ha_183 : (mi 21).toInt ≤ x_139.toInt := ha_183
                                  have ha_184 : r_178.toInt = (-1) := ha_184
                                  exfalso; omega
                                · skip
                                  have ha_185 : x_139.toInt ≤ (mi 21).toInt - 1 := ha_185
                                  refine lv_iadd (pc := 212) E.1 E.2.1 dX12_reads_212 ?_
                                  refine lv_topi (fun v_186 ev_186 => ?_)
                                  refine lv_bipush (pc := 213) (v := 48) E.1 E.2.1 dX12_reads_213 (by decide +kernel) ?_
                                  refine lv_isub (pc := 215) E.1 E.2.1 dX12_reads_215 ?_
                                  refine lv_topi (fun v_187 ev_187 => ?_)
                                  refine lv_goto (pc := 216) (tgt := 223) E.1 E.2.1 dX12_reads_216 (by decide) ?_
                                  refine x_put (pc := 223) (T := TX12) (N := 70) (ci := 12) (ws' := (MW cI cJ M mr (upd (upd (upd (upd mi 22 x_139) 23 x_5) 24 1) 25 v_187) mf mg)) E hw180 inX12 tyX12_ok nmX12 0 25 q_1424 rfl rfl (by decide) rfl rfl rfl rfl (Nat.le_of_ble_eq_true rfl) rfl dX12_reads_223 (fun H locs hw188 => ?_)
                                  refine lv_aload_n (pc := 226) E.1 E.2.1 dX12_reads_226 rfl (lv_at hl143 1 rfl) ?_
                                  refine lv_aload_n (pc := 227) E.1 E.2.1 dX12_reads_227 rfl (lv_at hl143 1 rfl) ?_
                                  refine x_get (pc := 228) (T := TX12) (N := 70) (ci := 12) (v := .int x_139) E hw188 inX12 0 22 q_1421 rfl rfl (by decide) rfl rfl dX12_reads_228 ?_
                                  refine lv_iconst (pc := 231) (v := 1) E.1 E.2.1 dX12_reads_231 (by decide +kernel) ?_
                                  refine lv_iadd (pc := 232) E.1 E.2.1 dX12_reads_232 ?_
                                  refine lv_topi (fun v_189 ev_189 => ?_)
                                  have hv_189 : v_189.toInt = x_139.toInt + 1 := by rw [ev_189]; exact addE rfl (by decide +kernel) (by omega)
                                  refine x_put (pc := 233) (T := TX12) (N := 70) (ci := 12) (ws' := (MW cI cJ M mr (upd (upd (upd (upd mi 22 v_189) 23 x_5) 24 1) 25 v_187) mf mg)) E hw188 inX12 tyX12_ok nmX12 0 22 q_1421 rfl rfl (by decide) rfl rfl rfl rfl (Nat.le_of_ble_eq_true rfl) rfl dX12_reads_233 (fun H locs hw190 => ?_)
                                  refine lv_goto (pc := 236) (tgt := 171) E.1 E.2.1 dX12_reads_236 (by decide) ?_
                                  exact ih_141 v_189 v_187 _ _ _ ⟨(by show x_5.toInt + 1 ≤ v_189.toInt; omega), (by show v_189.toInt ≤ (mi 21).toInt; omega)⟩ (by omega) hw190 (lv_sub hl143 [0, 1] rfl)
                            · skip
                              refine lv_if_eq (pc := 183) (tgt := 239) E.1 E.2.1 dX12_reads_183 (by decide) (fun _ => ?_) (fun c_191 => absurd (meqE (a := 0) (b := 0) (by decide +kernel) (by decide +kernel) (by omega)) c_191)
                              refine lv_aload_n (pc := 239) E.1 E.2.1 dX12_reads_239 rfl (lv_at hl143 1 rfl) ?_
                              refine x_get (pc := 240) (T := TX12) (N := 70) (ci := 12) (v := .int x_139) E hw167 inX12 0 22 q_1421 rfl rfl (by decide) rfl rfl dX12_reads_240 ?_
                              refine lv_aload_n (pc := 243) E.1 E.2.1 dX12_reads_243 rfl (lv_at hl143 1 rfl) ?_
                              refine x_get (pc := 244) (T := TX12) (N := 70) (ci := 12) (v := .int x_5) E hw167 inX12 0 23 q_1422 rfl rfl (by decide) rfl rfl dX12_reads_244 ?_
                              refine lv_isub (pc := 247) E.1 E.2.1 dX12_reads_247 ?_
                              refine lv_topi (fun v_192 ev_192 => ?_)
                              have hv_192 : v_192.toInt = x_139.toInt - x_5.toInt := by rw [ev_192]; exact subE rfl rfl (by omega)
                              refine lv_iconst (pc := 248) (v := 5) E.1 E.2.1 dX12_reads_248 (by decide +kernel) ?_
                              refine lv_icmp_ge (pc := 249) (tgt := 273) E.1 E.2.1 dX12_reads_249 (by decide) (fun c_193 => ?_) (fun c_193 => ?_)
                              · skip
                                have hc_193 := leE (a := 5) (b := v_192.toInt) (by decide +kernel) rfl c_193
                                exact em_v (w1 := (fun (u : Int32 × Int32 × Int32 × Int32) => (MW cI cJ M mr (upd (upd (upd (upd mi 22 u.1) 23 u.2.1) 24 u.2.2.1) 25 u.2.2.2) mf mg))) E hr hlk (x_139, x_5, 1, x_140) hw167 ⟨(by show 0 ≤ x_5.toInt; have k_0 : (1 : Int32).toInt = 1 := (by decide +kernel); omega), (by show x_5.toInt ≤ x_139.toInt; have k_0 : (1 : Int32).toInt = 1 := (by decide +kernel); omega), (by show x_139.toInt ≤ (mi 21).toInt; have k_0 : (1 : Int32).toInt = 1 := (by decide +kernel); omega), (by show 0 ≤ (1 : Int32).toInt; have k_0 : (1 : Int32).toInt = 1 := (by decide +kernel); omega), (by show (1 : Int32).toInt ≤ 4; have k_0 : (1 : Int32).toInt = 1 := (by decide +kernel); omega), (by show (1 : Int32).toInt ≤ 4 * x_139.toInt - 4 * x_5.toInt; have k_0 : (1 : Int32).toInt = 1 := (by decide +kernel); omega), (by show (mi 22).toInt ≤ x_5.toInt; have k_0 : (1 : Int32).toInt = 1 := (by decide +kernel); omega)⟩ (Nat.le_of_ble_eq_true rfl) (Nat.le_of_ble_eq_true rfl) dX12_reads_273
                              · skip
                                have hc_193 := nleE (a := 5) (b := v_192.toInt) (by decide +kernel) rfl c_193
                                refine lv_aload_n (pc := 252) E.1 E.2.1 dX12_reads_252 rfl (lv_at hl143 1 rfl) ?_
                                refine lv_iconst (pc := 253) (v := 3) E.1 E.2.1 dX12_reads_253 (by decide +kernel) ?_
                                refine x_put (pc := 254) (T := TX12) (N := 70) (ci := 12) (ws' := (MW cI cJ M mr (upd (upd (upd (upd mi 22 x_139) 23 x_5) 24 3) 25 x_140) mf mg)) E hw167 inX12 tyX12_ok nmX12 0 24 q_1423 rfl rfl (by decide) rfl rfl rfl rfl (Nat.le_of_ble_eq_true rfl) rfl dX12_reads_254 (fun H locs hw194 => ?_)
                                refine lv_goto (pc := 257) (tgt := 273) E.1 E.2.1 dX12_reads_257 (by decide) ?_
                                exact em_v (w1 := (fun (u : Int32 × Int32 × Int32 × Int32) => (MW cI cJ M mr (upd (upd (upd (upd mi 22 u.1) 23 u.2.1) 24 u.2.2.1) 25 u.2.2.2) mf mg))) E hr hlk (x_139, x_5, 3, x_140) hw194 ⟨(by show 0 ≤ x_5.toInt; have k_0 : (3 : Int32).toInt = 3 := (by decide +kernel); omega), (by show x_5.toInt ≤ x_139.toInt; have k_0 : (3 : Int32).toInt = 3 := (by decide +kernel); omega), (by show x_139.toInt ≤ (mi 21).toInt; have k_0 : (3 : Int32).toInt = 3 := (by decide +kernel); omega), (by show 0 ≤ (3 : Int32).toInt; have k_0 : (3 : Int32).toInt = 3 := (by decide +kernel); omega), (by show (3 : Int32).toInt ≤ 4; have k_0 : (3 : Int32).toInt = 3 := (by decide +kernel); omega), (by show (3 : Int32).toInt ≤ 4 * x_139.toInt - 4 * x_5.toInt; have k_0 : (3 : Int32).toInt = 3 := (by decide +kernel); omega), (by show (mi 22).toInt ≤ x_5.toInt; have k_0 : (3 : Int32).toInt = 3 := (by decide +kernel); omega)⟩ (Nat.le_of_ble_eq_true rfl) (Nat.le_of_ble_eq_true rfl) dX12_reads_273
                      exact loop_138 (Int.toNat ((mi 21).toInt - v_69.toInt) + 1) v_69 v_136 _ _ _ ⟨(by show x_5.toInt + 1 ≤ v_69.toInt; omega), (by show v_69.toInt ≤ (mi 21).toInt; omega)⟩ (by omega) hw137 (lv_sub hl67 [0, 1] rfl)
                    · skip
                      refine lv_if_eq (pc := 160) (tgt := 260) E.1 E.2.1 dX12_reads_160 (by decide) (fun _ => ?_) (fun c_195 => absurd (meqE (a := 0) (b := 0) (by decide +kernel) (by decide +kernel) (by omega)) c_195)
                      refine lv_aload_n (pc := 260) E.1 E.2.1 dX12_reads_260 rfl (lv_at hl67 1 rfl) ?_
                      refine lv_iload_n (pc := 261) E.1 E.2.1 dX12_reads_261 rfl (lv_at hl67 0 rfl) ?_
                      refine cm_i (pc := 262) hw131 (rn_M (As := [.int r_59]) (rest := []) E hw131 (s_isMarkSign l D cI cJ _ M mr (upd (upd (upd (upd mi 22 v_69) 23 x_5) 24 1) 25 r_59) mf mg r_59) (gdV q_1686 q_1688 q_57 q_162 q_1689) hdV_X12_isMarkSign ⟨rfl, rfl⟩ ⟨(Nat.le_of_ble_eq_true rfl), (Nat.le_of_ble_eq_true rfl)⟩ ⟨(Nat.le_of_ble_eq_true rfl), (Nat.le_of_ble_eq_true rfl)⟩ 12 rfl rfl rfl rfl hl67.1 rfl (Nat.le_of_ble_eq_true rfl) dX12_reads_262) (fun r_197 u_196 H1 locs hp hw198 => ?_)
                      generalize H1 = H at hw198 ⊢
                      have hw199 : WD D A s.heap (MW cI cJ M mr (upd (upd (upd (upd mi 22 v_69) 23 x_5) 24 1) 25 r_59) mf mg) H locs := hw198
                      have hp_200 := hp
                      have hp_200 : 0 ≤ r_197.toInt ∧ r_197.toInt ≤ 1 := hp_200
                      refine lv_if_eq (pc := 265) (tgt := 273) E.1 E.2.1 dX12_reads_265 (by decide) (fun c_201 => ?_) (fun c_201 => ?_)
                      · skip
                        have hc_201 := eqE (a := r_197.toInt) (b := 0) rfl (by decide +kernel) c_201
                        exact em_v (w1 := (fun (u : Int32 × Int32 × Int32 × Int32) => (MW cI cJ M mr (upd (upd (upd (upd mi 22 u.1) 23 u.2.1) 24 u.2.2.1) 25 u.2.2.2) mf mg))) E hr hlk (v_69, x_5, 1, r_59) hw199 ⟨(by show 0 ≤ x_5.toInt; have k_0 : (1 : Int32).toInt = 1 := (by decide +kernel); omega), (by show x_5.toInt ≤ v_69.toInt; have k_0 : (1 : Int32).toInt = 1 := (by decide +kernel); omega), (by show v_69.toInt ≤ (mi 21).toInt; have k_0 : (1 : Int32).toInt = 1 := (by decide +kernel); omega), (by show 0 ≤ (1 : Int32).toInt; have k_0 : (1 : Int32).toInt = 1 := (by decide +kernel); omega), (by show (1 : Int32).toInt ≤ 4; have k_0 : (1 : Int32).toInt = 1 := (by decide +kernel); omega), (by show (1 : Int32).toInt ≤ 4 * v_69.toInt - 4 * x_5.toInt; have k_0 : (1 : Int32).toInt = 1 := (by decide +kernel); omega), (by show (mi 22).toInt ≤ x_5.toInt; have k_0 : (1 : Int32).toInt = 1 := (by decide +kernel); omega)⟩ (Nat.le_of_ble_eq_true rfl) (Nat.le_of_ble_eq_true rfl) dX12_reads_273
                      · skip
                        have hc_201 := neE (a := r_197.toInt) (b := 0) rfl (by decide +kernel) c_201
                        refine lv_aload_n (pc := 268) E.1 E.2.1 dX12_reads_268 rfl (lv_at hl67 1 rfl) ?_
                        refine lv_iconst (pc := 269) (v := 4) E.1 E.2.1 dX12_reads_269 (by decide +kernel) ?_
                        refine x_put (pc := 270) (T := TX12) (N := 70) (ci := 12) (ws' := (MW cI cJ M mr (upd (upd (upd (upd mi 22 v_69) 23 x_5) 24 4) 25 r_59) mf mg)) E hw199 inX12 tyX12_ok nmX12 0 24 q_1423 rfl rfl (by decide) rfl rfl rfl rfl (Nat.le_of_ble_eq_true rfl) rfl dX12_reads_270 (fun H locs hw202 => ?_)
                        exact em_v (w1 := (fun (u : Int32 × Int32 × Int32 × Int32) => (MW cI cJ M mr (upd (upd (upd (upd mi 22 u.1) 23 u.2.1) 24 u.2.2.1) 25 u.2.2.2) mf mg))) E hr hlk (v_69, x_5, 4, r_59) hw202 ⟨(by show 0 ≤ x_5.toInt; have k_0 : (4 : Int32).toInt = 4 := (by decide +kernel); omega), (by show x_5.toInt ≤ v_69.toInt; have k_0 : (4 : Int32).toInt = 4 := (by decide +kernel); omega), (by show v_69.toInt ≤ (mi 21).toInt; have k_0 : (4 : Int32).toInt = 4 := (by decide +kernel); omega), (by show 0 ≤ (4 : Int32).toInt; have k_0 : (4 : Int32).toInt = 4 := (by decide +kernel); omega), (by show (4 : Int32).toInt ≤ 4; have k_0 : (4 : Int32).toInt = 4 := (by decide +kernel); omega), (by show (4 : Int32).toInt ≤ 4 * v_69.toInt - 4 * x_5.toInt; have k_0 : (4 : Int32).toInt = 4 := (by decide +kernel); omega), (by show (mi 22).toInt ≤ x_5.toInt; have k_0 : (4 : Int32).toInt = 4 := (by decide +kernel); omega)⟩ (Nat.le_of_ble_eq_true rfl) (Nat.le_of_ble_eq_true rfl) dX12_reads_273
                · skip
                  have hc_68 := eqE (a := r_59.toInt) (b := (-1)) rfl (by decide +kernel) c_68
                  refine lv_aload_n (pc := 66) E.1 E.2.1 dX12_reads_66 rfl (lv_at hl67 1 rfl) ?_
                  refine lv_iconst (pc := 67) (v := 0) E.1 E.2.1 dX12_reads_67 (by decide +kernel) ?_
                  refine x_put (pc := 68) (T := TX12) (N := 70) (ci := 12) (ws' := (MW cI cJ M mr (upd (upd (upd mi 22 x_5) 23 x_5) 24 0) mf mg)) E hw61 inX12 tyX12_ok nmX12 0 24 q_1423 rfl rfl (by decide) rfl rfl rfl rfl (Nat.le_of_ble_eq_true rfl) rfl dX12_reads_68 (fun H locs hw203 => ?_)
                  exact em_v (w1 := (fun (u : Int32 × Int32 × Int32 × Int32) => (MW cI cJ M mr (upd (upd (upd (upd mi 22 u.1) 23 u.2.1) 24 u.2.2.1) 25 u.2.2.2) mf mg))) E hr hlk (x_5, x_5, 0, (mi 25)) hw203 ⟨(by show 0 ≤ x_5.toInt; have k_0 : (0 : Int32).toInt = 0 := (by decide +kernel); omega), (by show x_5.toInt ≤ x_5.toInt; have k_0 : (0 : Int32).toInt = 0 := (by decide +kernel); omega), (by show x_5.toInt ≤ (mi 21).toInt; have k_0 : (0 : Int32).toInt = 0 := (by decide +kernel); omega), (by show 0 ≤ (0 : Int32).toInt; have k_0 : (0 : Int32).toInt = 0 := (by decide +kernel); omega), (by show (0 : Int32).toInt ≤ 4; have k_0 : (0 : Int32).toInt = 0 := (by decide +kernel); omega), (by show (0 : Int32).toInt ≤ 4 * x_5.toInt - 4 * x_5.toInt; have k_0 : (0 : Int32).toInt = 0 := (by decide +kernel); omega), (by show (mi 22).toInt ≤ x_5.toInt; have k_0 : (0 : Int32).toInt = 0 := (by decide +kernel); omega)⟩ (Nat.le_of_ble_eq_true rfl) (Nat.le_of_ble_eq_true rfl) dX12_reads_71
            · skip
              have hc_55 := eqE (a := r_47.toInt) (b := 10) rfl (by decide +kernel) c_55
              refine lv_aload_n (pc := 26) E.1 E.2.1 dX12_reads_26 rfl (lv_at hl8 0 rfl) ?_
              refine lv_aload_n (pc := 27) E.1 E.2.1 dX12_reads_27 rfl (lv_at hl8 0 rfl) ?_
              refine x_get (pc := 28) (T := TX12) (N := 70) (ci := 12) (v := .int x_5) E hw49 inX12 0 22 q_1421 rfl rfl (by decide) rfl rfl dX12_reads_28 ?_
              refine lv_iconst (pc := 31) (v := 1) E.1 E.2.1 dX12_reads_31 (by decide +kernel) ?_
              refine lv_iadd (pc := 32) E.1 E.2.1 dX12_reads_32 ?_
              refine lv_topi (fun v_204 ev_204 => ?_)
              have hv_204 : v_204.toInt = x_5.toInt + 1 := by rw [ev_204]; exact addE rfl (by decide +kernel) (by omega)
              refine x_put (pc := 33) (T := TX12) (N := 70) (ci := 12) (ws' := (MW cI cJ M mr (upd mi 22 v_204) mf mg)) E hw49 inX12 tyX12_ok nmX12 0 22 q_1421 rfl rfl (by decide) rfl rfl rfl rfl (Nat.le_of_ble_eq_true rfl) rfl dX12_reads_33 (fun H locs hw205 => ?_)
              refine lv_goto (pc := 36) (tgt := 0) E.1 E.2.1 dX12_reads_36 (by decide) ?_
              exact ih_6 v_204 _ _ _ ⟨(by show 0 ≤ v_204.toInt; omega), (by show v_204.toInt ≤ (mi 21).toInt; omega), (by show (mi 22).toInt ≤ v_204.toInt; omega)⟩ (by omega) hw205 (lv_sub hl8 [0] rfl)
  exact loop_4 (Int.toNat ((mi 21).toInt - (mi 22).toInt) + 1) (mi 22) _ _ _ ⟨(by show 0 ≤ (mi 22).toInt; omega), (by show (mi 22).toInt ≤ (mi 21).toInt; omega), (by show (mi 22).toInt ≤ (mi 22).toInt; omega)⟩ (by omega) hw1 (lv_sub hl3 [0] rfl)

set_option maxHeartbeats 4000000 in
set_option maxRecDepth 100000 in
theorem s_emits2 (l : Launch) (D : va_G) (cI cJ : ClassId) (sz M : Nat) (mr : Nat → Nat) (mi : Nat → Int32) (mf : Nat → Nat → Int32) (mg : Nat → Nat → Int64) (z_what : Int32) (z_v : Int32) (h0 : 0 ≤ (mi 34).toInt ∧ (mi 34).toInt ≤ 399) : Met l yX12_emits (Cond.code yX12_emits cX12_emits 3 none :: GW) ({ frames := 1, cells := 0, slots := 0, locals := 40 } : Room) (va_Pc [.ref M, .int z_what, .int z_v] (PW D cI cJ sz (MW cI cJ M mr mi mf mg) xT)) (va_Qv (fun (u : (Nat → Int32) × (Nat → Int32) × Int32) => (u.2.2.toInt = (mi 34).toInt + 1) ∧ (EM (mf 31) (mf 32) u.1 u.2.1 (800 + ((mi 34).toInt).toNat) z_what z_v)) (fun u => QW D cI cJ (va_A (MW cI cJ M mr mi mf mg) sz) ((fun (u : (Nat → Int32) × (Nat → Int32) × Int32) => (MW cI cJ M mr (upd mi 34 u.2.2) (va_up (va_up mf 31 u.1) 32 u.2.1) mg)) u)) (va_A (MW cI cJ M mr mi mf mg) sz)) 0 0 (va_A (MW cI cJ M mr mi mf mg) sz) := by
  refine mk_met (y := yX12_emits) (bytes := cX12_emits) (maxL := 3) (avs := [.ref M, .int z_what, .int z_v]) (WS := (MW cI cJ M mr mi mf mg)) (Qf := fun A => va_Qv (fun (u : (Nat → Int32) × (Nat → Int32) × Int32) => (u.2.2.toInt = (mi 34).toInt + 1) ∧ (EM (mf 31) (mf 32) u.1 u.2.1 (800 + ((mi 34).toInt).toNat) z_what z_v)) (fun u => QW D cI cJ A ((fun (u : (Nat → Int32) × (Nat → Int32) × Int32) => (MW cI cJ M mr (upd mi 34 u.2.2) (va_up (va_up mf 31 u.1) 32 u.2.1) mg)) u)) A) (by decide) (Nat.le_of_ble_eq_true rfl) ?_
  intro p e s m below meth c A ls E hr hlk hnm hX hw1 hl2
  have hl3 : lv_has ls 3 [(0, .ref M), (1, .int z_what), (2, .int z_v)] := hl2
  refine lv_aload_n (pc := 0) E.1 E.2.1 dX12_emits_0 rfl (lv_at hl3 0 rfl) ?_
  refine x_get (pc := 1) (T := TX12) (N := 70) (ci := 12) (v := .ref (mr 31)) E hw1 inX12 0 31 q_1430 rfl rfl (by decide) rfl rfl dX12_emits_1 ?_
  refine lv_sipush (pc := 4) (v := 800) E.1 E.2.1 dX12_emits_4 (by decide +kernel) ?_
  refine lv_aload_n (pc := 7) E.1 E.2.1 dX12_emits_7 rfl (lv_at hl3 0 rfl) ?_
  refine x_get (pc := 8) (T := TX12) (N := 70) (ci := 12) (v := .int (mi 34)) E hw1 inX12 0 34 q_1433 rfl rfl (by decide) rfl rfl dX12_emits_8 ?_
  refine lv_iadd (pc := 11) E.1 E.2.1 dX12_emits_11 ?_
  refine lv_topi (fun v_4 ev_4 => ?_)
  have hv_4 : v_4.toInt = 800 + (mi 34).toInt := by rw [ev_4]; exact addE (by decide +kernel) rfl (by omega)
  refine lv_iload_n (pc := 12) E.1 E.2.1 dX12_emits_12 rfl (lv_at hl3 1 rfl) ?_
  refine x_iastG (pc := 13) (f := (mf 31)) (wf := fun g => (MW cI cJ M mr mi (va_up mf 31 g) mg)) E hw1 18 rfl (inbE (a := v_4.toInt) rfl (by omega)) (fun _ => rfl) dX12_emits_13 (fun g_5 H locs eg_5 hw6 => ?_)
  refine lv_aload_n (pc := 14) E.1 E.2.1 dX12_emits_14 rfl (lv_at hl3 0 rfl) ?_
  refine x_get (pc := 15) (T := TX12) (N := 70) (ci := 12) (v := .ref (mr 32)) E hw6 inX12 0 32 q_1431 rfl rfl (by decide) rfl rfl dX12_emits_15 ?_
  refine lv_sipush (pc := 18) (v := 800) E.1 E.2.1 dX12_emits_18 (by decide +kernel) ?_
  refine lv_aload_n (pc := 21) E.1 E.2.1 dX12_emits_21 rfl (lv_at hl3 0 rfl) ?_
  refine x_get (pc := 22) (T := TX12) (N := 70) (ci := 12) (v := .int (mi 34)) E hw6 inX12 0 34 q_1433 rfl rfl (by decide) rfl rfl dX12_emits_22 ?_
  refine lv_iadd (pc := 25) E.1 E.2.1 dX12_emits_25 ?_
  refine lv_topi (fun v_7 ev_7 => ?_)
  have hv_7 : v_7.toInt = 800 + (mi 34).toInt := by rw [ev_7]; exact addE (by decide +kernel) rfl (by omega)
  refine lv_iload_n (pc := 26) E.1 E.2.1 dX12_emits_26 rfl (lv_at hl3 2 rfl) ?_
  refine x_iastG (pc := 27) (f := (mf 32)) (wf := fun g => (MW cI cJ M mr mi (va_up (va_up mf 31 g_5) 32 g) mg)) E hw6 19 rfl (inbE (a := v_7.toInt) rfl (by omega)) (fun _ => rfl) dX12_emits_27 (fun g_8 H locs eg_8 hw9 => ?_)
  refine lv_aload_n (pc := 28) E.1 E.2.1 dX12_emits_28 rfl (lv_at hl3 0 rfl) ?_
  refine lv_aload_n (pc := 29) E.1 E.2.1 dX12_emits_29 rfl (lv_at hl3 0 rfl) ?_
  refine x_get (pc := 30) (T := TX12) (N := 70) (ci := 12) (v := .int (mi 34)) E hw9 inX12 0 34 q_1433 rfl rfl (by decide) rfl rfl dX12_emits_30 ?_
  refine lv_iconst (pc := 33) (v := 1) E.1 E.2.1 dX12_emits_33 (by decide +kernel) ?_
  refine lv_iadd (pc := 34) E.1 E.2.1 dX12_emits_34 ?_
  refine lv_topi (fun v_10 ev_10 => ?_)
  have hv_10 : v_10.toInt = (mi 34).toInt + 1 := by rw [ev_10]; exact addE rfl (by decide +kernel) (by omega)
  refine x_put (pc := 35) (T := TX12) (N := 70) (ci := 12) (ws' := (MW cI cJ M mr (upd mi 34 v_10) (va_up (va_up mf 31 g_5) 32 g_8) mg)) E hw9 inX12 tyX12_ok nmX12 0 34 q_1433 rfl rfl (by decide) rfl rfl rfl rfl (Nat.le_of_ble_eq_true rfl) rfl dX12_emits_35 (fun H locs hw11 => ?_)
  exact em_v (w1 := (fun (u : (Nat → Int32) × (Nat → Int32) × Int32) => (MW cI cJ M mr (upd mi 34 u.2.2) (va_up (va_up mf 31 u.1) 32 u.2.1) mg))) E hr hlk (g_5, g_8, v_10) hw11 ⟨(by show v_10.toInt = (mi 34).toInt + 1; omega), (show EM (mf 31) (mf 32) g_5 g_8 (800 + ((mi 34).toInt).toNat) z_what z_v from (EM_of eg_5 eg_8 (by omega) (by omega)))⟩ (Nat.le_of_ble_eq_true rfl) (Nat.le_of_ble_eq_true rfl) dX12_emits_38

set_option maxHeartbeats 4000000 in
set_option maxRecDepth 100000 in
theorem s_readUnit (l : Launch) (D : va_G) (cI cJ : ClassId) (sz M : Nat) (mr : Nat → Nat) (mi : Nat → Int32) (mf : Nat → Nat → Int32) (mg : Nat → Nat → Int64)  (h0 : 0 ≤ (mi 23).toInt) (h1 : (mi 23).toInt ≤ (mi 22).toInt) (h2 : (mi 22).toInt ≤ (mi 21).toInt) (h3 : (mi 21).toInt ≤ 400) (h4 : 0 ≤ (mi 24).toInt) (h5 : (mi 24).toInt ≤ 4) (h6 : (mi 24).toInt ≤ 4 * (mi 22).toInt - 4 * (mi 23).toInt) (h7 : ((mf 26) 153).toInt = 32) (h8 : 0 ≤ (mi 34).toInt) (h9 : (mi 34).toInt ≤ (mi 23).toInt) : Met l yX12_readUnit (Cond.code yX12_readUnit cX12_readUnit 2 (some .int) :: GW) ({ frames := 4, cells := 0, slots := 0, locals := 105 } : Room) (va_Pc [.ref M] (PW D cI cJ sz (MW cI cJ M mr mi mf mg) xT)) (va_Qi (fun (r : Int32) (u : Int32 × Int32 × Int32 × Int32 × (Nat → Int32) × (Nat → Int32) × Int32 × Int32 × Int32) => (0 ≤ u.2.1.toInt) ∧ (u.2.1.toInt ≤ u.1.toInt) ∧ (u.1.toInt ≤ (mi 21).toInt) ∧ (0 ≤ u.2.2.1.toInt) ∧ (u.2.2.1.toInt ≤ 4) ∧ (u.2.2.1.toInt ≤ 4 * u.1.toInt - 4 * u.2.1.toInt) ∧ (0 ≤ u.2.2.2.2.2.2.1.toInt) ∧ (u.2.2.2.2.2.2.1.toInt ≤ u.2.1.toInt) ∧ (r = 0 → TX (mf 31) (mf 32) (800 + ((mi 34).toInt).toNat) u.2.2.2.2.1 u.2.2.2.2.2.1 (800 + (u.2.2.2.2.2.2.1.toInt).toNat)) ∧ (r = 0 → ((mi 24).toInt = 3 → u.2.2.2.2.1 (800 + ((mi 34).toInt).toNat) = 0 ∧ (u.2.2.2.2.2.1 (800 + ((mi 34).toInt).toNat)).toInt = (mi 25).toInt)) ∧ ((r = (-1)) ∨ (r = 0 ∧ (mi 23).toInt - (mi 34).toInt ≤ u.2.1.toInt - u.2.2.2.2.2.2.1.toInt ∧ (mi 23).toInt + 1 ≤ u.2.1.toInt ∧ u.2.2.2.2.2.2.1.toInt = (mi 34).toInt + 1))) (fun u => QW D cI cJ (va_A (MW cI cJ M mr mi mf mg) sz) ((fun (u : Int32 × Int32 × Int32 × Int32 × (Nat → Int32) × (Nat → Int32) × Int32 × Int32 × Int32) => (MW cI cJ M mr (upd (upd (upd (upd (upd (upd (upd mi 22 u.1) 23 u.2.1) 24 u.2.2.1) 25 u.2.2.2.1) 34 u.2.2.2.2.2.2.1) 38 u.2.2.2.2.2.2.2.1) 39 u.2.2.2.2.2.2.2.2) (va_up (va_up mf 31 u.2.2.2.2.1) 32 u.2.2.2.2.2.1) mg)) u)) (va_A (MW cI cJ M mr mi mf mg) sz)) 0 0 (va_A (MW cI cJ M mr mi mf mg) sz) := by
  refine mk_met (y := yX12_readUnit) (bytes := cX12_readUnit) (maxL := 2) (avs := [.ref M]) (WS := (MW cI cJ M mr mi mf mg)) (Qf := fun A => va_Qi (fun (r : Int32) (u : Int32 × Int32 × Int32 × Int32 × (Nat → Int32) × (Nat → Int32) × Int32 × Int32 × Int32) => (0 ≤ u.2.1.toInt) ∧ (u.2.1.toInt ≤ u.1.toInt) ∧ (u.1.toInt ≤ (mi 21).toInt) ∧ (0 ≤ u.2.2.1.toInt) ∧ (u.2.2.1.toInt ≤ 4) ∧ (u.2.2.1.toInt ≤ 4 * u.1.toInt - 4 * u.2.1.toInt) ∧ (0 ≤ u.2.2.2.2.2.2.1.toInt) ∧ (u.2.2.2.2.2.2.1.toInt ≤ u.2.1.toInt) ∧ (r = 0 → TX (mf 31) (mf 32) (800 + ((mi 34).toInt).toNat) u.2.2.2.2.1 u.2.2.2.2.2.1 (800 + (u.2.2.2.2.2.2.1.toInt).toNat)) ∧ (r = 0 → ((mi 24).toInt = 3 → u.2.2.2.2.1 (800 + ((mi 34).toInt).toNat) = 0 ∧ (u.2.2.2.2.2.1 (800 + ((mi 34).toInt).toNat)).toInt = (mi 25).toInt)) ∧ ((r = (-1)) ∨ (r = 0 ∧ (mi 23).toInt - (mi 34).toInt ≤ u.2.1.toInt - u.2.2.2.2.2.2.1.toInt ∧ (mi 23).toInt + 1 ≤ u.2.1.toInt ∧ u.2.2.2.2.2.2.1.toInt = (mi 34).toInt + 1))) (fun u => QW D cI cJ A ((fun (u : Int32 × Int32 × Int32 × Int32 × (Nat → Int32) × (Nat → Int32) × Int32 × Int32 × Int32) => (MW cI cJ M mr (upd (upd (upd (upd (upd (upd (upd mi 22 u.1) 23 u.2.1) 24 u.2.2.1) 25 u.2.2.2.1) 34 u.2.2.2.2.2.2.1) 38 u.2.2.2.2.2.2.2.1) 39 u.2.2.2.2.2.2.2.2) (va_up (va_up mf 31 u.2.2.2.2.1) 32 u.2.2.2.2.2.1) mg)) u)) A) (by decide) (Nat.le_of_ble_eq_true rfl) ?_
  intro p e s m below meth c A ls E hr hlk hnm hX hw1 hl2
  have hl3 : lv_has ls 2 [(0, .ref M)] := hl2
  refine lv_aload_n (pc := 0) E.1 E.2.1 dX12_readUnit_0 rfl (lv_at hl3 0 rfl) ?_
  refine x_get (pc := 1) (T := TX12) (N := 70) (ci := 12) (v := .int (mi 24)) E hw1 inX12 0 24 q_1423 rfl rfl (by decide) rfl rfl dX12_readUnit_1 ?_
  refine lv_iconst (pc := 4) (v := 2) E.1 E.2.1 dX12_readUnit_4 (by decide +kernel) ?_
  refine lv_icmp_ne (pc := 5) (tgt := 23) E.1 E.2.1 dX12_readUnit_5 (by decide) (fun c_4 => ?_) (fun c_4 => ?_)
  · skip
    have hc_4 := neE (a := (mi 24).toInt) (b := 2) rfl (by decide +kernel) c_4
    refine lv_iconst (pc := 23) (v := 0) E.1 E.2.1 dX12_readUnit_23 (by decide +kernel) ?_
    refine lv_istore_n (pc := 24) (lv' := [(1, .int 0), (0, .ref M)]) E.1 E.2.1 dX12_readUnit_24 rfl hl3 (by decide) rfl (fun ls hl5 => ?_)
    refine lv_iload_n (pc := 25) E.1 E.2.1 dX12_readUnit_25 rfl (lv_at hl5 0 rfl) ?_
    refine lv_if_ne (pc := 26) (tgt := 43) E.1 E.2.1 dX12_readUnit_26 (by decide) (fun c_6 => absurd (meqE (a := 0) (b := 0) (by decide +kernel) (by decide +kernel) (by omega)) c_6) (fun _ => ?_)
    refine lv_aload_n (pc := 29) E.1 E.2.1 dX12_readUnit_29 rfl (lv_at hl5 1 rfl) ?_
    refine x_get (pc := 30) (T := TX12) (N := 70) (ci := 12) (v := .int (mi 24)) E hw1 inX12 0 24 q_1423 rfl rfl (by decide) rfl rfl dX12_readUnit_30 ?_
    refine lv_iconst (pc := 33) (v := 3) E.1 E.2.1 dX12_readUnit_33 (by decide +kernel) ?_
    refine lv_icmp_eq (pc := 34) (tgt := 43) E.1 E.2.1 dX12_readUnit_34 (by decide) (fun c_7 => ?_) (fun c_7 => ?_)
    · skip
      have hc_7 := eqE (a := (mi 24).toInt) (b := 3) rfl (by decide +kernel) c_7
      refine lv_aload_n (pc := 43) E.1 E.2.1 dX12_readUnit_43 rfl (lv_at hl5 1 rfl) ?_
      refine lv_iload_n (pc := 44) E.1 E.2.1 dX12_readUnit_44 rfl (lv_at hl5 0 rfl) ?_
      refine lv_if_eq (pc := 45) (tgt := 52) E.1 E.2.1 dX12_readUnit_45 (by decide) (fun _ => ?_) (fun c_8 => absurd (meqE (a := 0) (b := 0) (by decide +kernel) (by decide +kernel) (by omega)) c_8)
      refine lv_iconst (pc := 52) (v := 0) E.1 E.2.1 dX12_readUnit_52 (by decide +kernel) ?_
      refine lv_iload_n (pc := 53) E.1 E.2.1 dX12_readUnit_53 rfl (lv_at hl5 0 rfl) ?_
      refine lv_if_eq (pc := 54) (tgt := 67) E.1 E.2.1 dX12_readUnit_54 (by decide) (fun _ => ?_) (fun c_9 => absurd (meqE (a := 0) (b := 0) (by decide +kernel) (by decide +kernel) (by omega)) c_9)
      refine lv_aload_n (pc := 67) E.1 E.2.1 dX12_readUnit_67 rfl (lv_at hl5 1 rfl) ?_
      refine x_get (pc := 68) (T := TX12) (N := 70) (ci := 12) (v := .int (mi 25)) E hw1 inX12 0 25 q_1424 rfl rfl (by decide) rfl rfl dX12_readUnit_68 ?_
      refine cm_v (pc := 71) hw1 (rn_M (As := [.int 0, .int (mi 25)]) (rest := []) E hw1 (s_emits2 l D cI cJ _ M mr mi mf mg 0 (mi 25) (by show 0 ≤ (mi 34).toInt ∧ (mi 34).toInt ≤ 399; omega)) (gdV q_1786 q_1788 q_82 q_162 q_1789) hdV_X12_emits ⟨rfl, rfl⟩ ⟨(Nat.le_of_ble_eq_true rfl), (Nat.le_of_ble_eq_true rfl)⟩ ⟨(Nat.le_of_ble_eq_true rfl), (Nat.le_of_ble_eq_true rfl)⟩ 12 rfl rfl rfl rfl hl5.1 rfl (Nat.le_of_ble_eq_true rfl) dX12_readUnit_71) (fun u_10 H1 locs hp hw12 => ?_)
      obtain ⟨gop_13, garg_14, ncodes_15⟩ := u_10
      generalize H1 = H at hw12 ⊢
      have hw16 : WD D A s.heap (MW cI cJ M mr (upd mi 34 ncodes_15) (va_up (va_up mf 31 gop_13) 32 garg_14) mg) H locs := hw12
      obtain ⟨hp_17, hp_18⟩ := hp
      have hp_17 : ncodes_15.toInt = (mi 34).toInt + 1 := hp_17
      have hp_18 : EM (mf 31) (mf 32) gop_13 garg_14 (800 + ((mi 34).toInt).toNat) (0 : Int32) (mi 25) := hp_18
      refine lv_aload_n (pc := 74) E.1 E.2.1 dX12_readUnit_74 rfl (lv_at hl5 1 rfl) ?_
      refine cm_v (pc := 75) hw16 (rn_M (As := []) (rest := []) E hw16 (s_reads l D cI cJ _ M mr (upd mi 34 ncodes_15) (va_up (va_up mf 31 gop_13) 32 garg_14) mg (by show 0 ≤ (mi 22).toInt; omega) (by show (mi 22).toInt ≤ (mi 21).toInt; omega) (by show (mi 21).toInt ≤ 400; omega) (by show ((mf 26) 153).toInt = 32; omega)) (gdV q_1666 q_1668 q_52 q_162 q_1669) hdV_X12_reads ⟨rfl, rfl⟩ ⟨(Nat.le_of_ble_eq_true rfl), (Nat.le_of_ble_eq_true rfl)⟩ ⟨(Nat.le_of_ble_eq_true rfl), (Nat.le_of_ble_eq_true rfl)⟩ 12 rfl rfl rfl rfl hl5.1 rfl (Nat.le_of_ble_eq_true rfl) dX12_readUnit_75) (fun u_19 H1 locs hp hw21 => ?_)
      obtain ⟨nspot_22, nfrom_23, ntoken_24, nvalue_25⟩ := u_19
      generalize H1 = H at hw21 ⊢
      have hw26 : WD D A s.heap (MW cI cJ M mr (upd (upd (upd (upd (upd mi 22 nspot_22) 23 nfrom_23) 24 ntoken_24) 25 nvalue_25) 34 ncodes_15) (va_up (va_up mf 31 gop_13) 32 garg_14) mg) H locs := hw21
      obtain ⟨hp_27, hp_28, hp_29, hp_30, hp_31, hp_32, hp_33⟩ := hp
      have hp_27 : 0 ≤ nfrom_23.toInt := hp_27
      have hp_28 : nfrom_23.toInt ≤ nspot_22.toInt := hp_28
      have hp_29 : nspot_22.toInt ≤ (mi 21).toInt := hp_29
      have hp_30 : 0 ≤ ntoken_24.toInt := hp_30
      have hp_31 : ntoken_24.toInt ≤ 4 := hp_31
      have hp_32 : ntoken_24.toInt ≤ 4 * nspot_22.toInt - 4 * nfrom_23.toInt := hp_32
      have hp_33 : (mi 22).toInt ≤ nfrom_23.toInt := hp_33
      refine lv_iconst (pc := 78) (v := 0) E.1 E.2.1 dX12_readUnit_78 (by decide +kernel) ?_
      exact em_i (w1 := (fun (u : Int32 × Int32 × Int32 × Int32 × (Nat → Int32) × (Nat → Int32) × Int32 × Int32 × Int32) => (MW cI cJ M mr (upd (upd (upd (upd (upd (upd (upd mi 22 u.1) 23 u.2.1) 24 u.2.2.1) 25 u.2.2.2.1) 34 u.2.2.2.2.2.2.1) 38 u.2.2.2.2.2.2.2.1) 39 u.2.2.2.2.2.2.2.2) (va_up (va_up mf 31 u.2.2.2.2.1) 32 u.2.2.2.2.2.1) mg))) E hr hlk (nspot_22, nfrom_23, ntoken_24, nvalue_25, gop_13, garg_14, ncodes_15, (mi 38), (mi 39)) hw26 ⟨(by show 0 ≤ nfrom_23.toInt; have k_0 : (0 : Int32).toInt = 0 := (by decide +kernel); omega), (by show nfrom_23.toInt ≤ nspot_22.toInt; have k_0 : (0 : Int32).toInt = 0 := (by decide +kernel); omega), (by show nspot_22.toInt ≤ (mi 21).toInt; have k_0 : (0 : Int32).toInt = 0 := (by decide +kernel); omega), (by show 0 ≤ ntoken_24.toInt; have k_0 : (0 : Int32).toInt = 0 := (by decide +kernel); omega), (by show ntoken_24.toInt ≤ 4; have k_0 : (0 : Int32).toInt = 0 := (by decide +kernel); omega), (by show ntoken_24.toInt ≤ 4 * nspot_22.toInt - 4 * nfrom_23.toInt; have k_0 : (0 : Int32).toInt = 0 := (by decide +kernel); omega), (by show 0 ≤ ncodes_15.toInt; have k_0 : (0 : Int32).toInt = 0 := (by decide +kernel); omega), (by show ncodes_15.toInt ≤ nfrom_23.toInt; have k_0 : (0 : Int32).toInt = 0 := (by decide +kernel); omega), (fun _ => (show TX (mf 31) (mf 32) (800 + ((mi 34).toInt).toNat) gop_13 garg_14 (800 + (ncodes_15.toInt).toNat) from (TX_num hp_18 (Or.inl rfl) (by omega)))), (fun _ => (show ((mi 24).toInt = 3 → gop_13 (800 + ((mi 34).toInt).toNat) = 0 ∧ (garg_14 (800 + ((mi 34).toInt).toNat)).toInt = (mi 25).toInt) from (fun _ => ⟨hp_18.1, congrArg Int32.toInt hp_18.2.1⟩))), (Or.inr (⟨rfl, (by show (mi 23).toInt - (mi 34).toInt ≤ nfrom_23.toInt - ncodes_15.toInt; omega), (by show (mi 23).toInt + 1 ≤ nfrom_23.toInt; omega), (by show ncodes_15.toInt = (mi 34).toInt + 1; omega)⟩))⟩ (Nat.le_of_ble_eq_true rfl) (Nat.le_of_ble_eq_true rfl) dX12_readUnit_79
    · skip
      have hc_7 := neE (a := (mi 24).toInt) (b := 3) rfl (by decide +kernel) c_7
      refine lv_aload_n (pc := 37) E.1 E.2.1 dX12_readUnit_37 rfl (lv_at hl5 1 rfl) ?_
      refine lv_iconst (pc := 38) (v := 1) E.1 E.2.1 dX12_readUnit_38 (by decide +kernel) ?_
      refine cm_i (pc := 39) hw1 (rn_M (As := [.int 1]) (rest := []) E hw1 (s_errs2 l D cI cJ _ M mr mi mf mg 1) (gdV q_1698 q_1700 q_60 q_162 q_1701) hdV_X12_errs ⟨rfl, rfl⟩ ⟨(Nat.le_of_ble_eq_true rfl), (Nat.le_of_ble_eq_true rfl)⟩ ⟨(Nat.le_of_ble_eq_true rfl), (Nat.le_of_ble_eq_true rfl)⟩ 12 rfl rfl rfl rfl hl5.1 rfl (Nat.le_of_ble_eq_true rfl) dX12_readUnit_39) (fun r_35 u_34 H1 locs hp hw36 => ?_)
      obtain ⟨nreadFault_37, nreadPlace_38⟩ := u_34
      generalize H1 = H at hw36 ⊢
      have hw39 : WD D A s.heap (MW cI cJ M mr (upd (upd mi 38 nreadFault_37) 39 nreadPlace_38) mf mg) H locs := hw36
      have hp_40 := hp
      rcases hp_40 with rfl
      · skip
        exact em_i (w1 := (fun (u : Int32 × Int32 × Int32 × Int32 × (Nat → Int32) × (Nat → Int32) × Int32 × Int32 × Int32) => (MW cI cJ M mr (upd (upd (upd (upd (upd (upd (upd mi 22 u.1) 23 u.2.1) 24 u.2.2.1) 25 u.2.2.2.1) 34 u.2.2.2.2.2.2.1) 38 u.2.2.2.2.2.2.2.1) 39 u.2.2.2.2.2.2.2.2) (va_up (va_up mf 31 u.2.2.2.2.1) 32 u.2.2.2.2.2.1) mg))) E hr hlk ((mi 22), (mi 23), (mi 24), (mi 25), (mf 31), (mf 32), (mi 34), nreadFault_37, nreadPlace_38) hw39 ⟨(by show 0 ≤ (mi 23).toInt; have k_0 : ((-1) : Int32).toInt = -1 := (by decide +kernel); omega), (by show (mi 23).toInt ≤ (mi 22).toInt; have k_0 : ((-1) : Int32).toInt = -1 := (by decide +kernel); omega), (by show (mi 22).toInt ≤ (mi 21).toInt; have k_0 : ((-1) : Int32).toInt = -1 := (by decide +kernel); omega), (by show 0 ≤ (mi 24).toInt; have k_0 : ((-1) : Int32).toInt = -1 := (by decide +kernel); omega), (by show (mi 24).toInt ≤ 4; have k_0 : ((-1) : Int32).toInt = -1 := (by decide +kernel); omega), (by show (mi 24).toInt ≤ 4 * (mi 22).toInt - 4 * (mi 23).toInt; have k_0 : ((-1) : Int32).toInt = -1 := (by decide +kernel); omega), (by show 0 ≤ (mi 34).toInt; have k_0 : ((-1) : Int32).toInt = -1 := (by decide +kernel); omega), (by show (mi 34).toInt ≤ (mi 23).toInt; have k_0 : ((-1) : Int32).toInt = -1 := (by decide +kernel); omega), (fun h => absurd h (by decide +kernel)), (fun h => absurd h (by decide +kernel)), (Or.inl rfl)⟩ (Nat.le_of_ble_eq_true rfl) (Nat.le_of_ble_eq_true rfl) dX12_readUnit_42
  · skip
    have hc_4 := eqE (a := (mi 24).toInt) (b := 2) rfl (by decide +kernel) c_4
    refine lv_aload_n (pc := 8) E.1 E.2.1 dX12_readUnit_8 rfl (lv_at hl3 0 rfl) ?_
    refine lv_aload_n (pc := 9) E.1 E.2.1 dX12_readUnit_9 rfl (lv_at hl3 0 rfl) ?_
    refine x_get (pc := 10) (T := TX12) (N := 70) (ci := 12) (v := .int (mi 25)) E hw1 inX12 0 25 q_1424 rfl rfl (by decide) rfl rfl dX12_readUnit_10 ?_
    refine cm_i (pc := 13) hw1 (rn_M (As := [.int (mi 25)]) (rest := []) E hw1 (s_canAsk l D cI cJ _ M mr mi mf mg (mi 25)) (gdV q_1782 q_1784 q_81 q_162 q_1785) hdV_X12_canAsk ⟨rfl, rfl⟩ ⟨(Nat.le_of_ble_eq_true rfl), (Nat.le_of_ble_eq_true rfl)⟩ ⟨(Nat.le_of_ble_eq_true rfl), (Nat.le_of_ble_eq_true rfl)⟩ 12 rfl rfl rfl rfl hl3.1 rfl (Nat.le_of_ble_eq_true rfl) dX12_readUnit_13) (fun r_42 u_41 H1 locs hp hw43 => ?_)
    generalize H1 = H at hw43 ⊢
    have hw44 : WD D A s.heap (MW cI cJ M mr mi mf mg) H locs := hw43
    have hp_45 := hp
    rcases hp_45 with ⟨rfl, ha_46, ha_47⟩ | rfl
    · skip
      have ha_46 : 6 ≤ (mi 25).toInt := ha_46
      have ha_47 : (mi 25).toInt ≤ 15 := ha_47
      refine lv_if_eq (pc := 16) (tgt := 23) E.1 E.2.1 dX12_readUnit_16 (by decide) (fun c_48 => absurd c_48 (mneE (a := 1) (b := 0) (by decide +kernel) (by decide +kernel) (by omega))) (fun _ => ?_)
      refine lv_iconst (pc := 19) (v := 1) E.1 E.2.1 dX12_readUnit_19 (by decide +kernel) ?_
      refine lv_goto (pc := 20) (tgt := 24) E.1 E.2.1 dX12_readUnit_20 (by decide) ?_
      refine lv_istore_n (pc := 24) (lv' := [(1, .int 1), (0, .ref M)]) E.1 E.2.1 dX12_readUnit_24 rfl hl3 (by decide) rfl (fun ls hl49 => ?_)
      refine lv_iload_n (pc := 25) E.1 E.2.1 dX12_readUnit_25 rfl (lv_at hl49 0 rfl) ?_
      refine lv_if_ne (pc := 26) (tgt := 43) E.1 E.2.1 dX12_readUnit_26 (by decide) (fun _ => ?_) (fun c_50 => absurd c_50 (mneE (a := 1) (b := 0) (by decide +kernel) (by decide +kernel) (by omega)))
      refine lv_aload_n (pc := 43) E.1 E.2.1 dX12_readUnit_43 rfl (lv_at hl49 1 rfl) ?_
      refine lv_iload_n (pc := 44) E.1 E.2.1 dX12_readUnit_44 rfl (lv_at hl49 0 rfl) ?_
      refine lv_if_eq (pc := 45) (tgt := 52) E.1 E.2.1 dX12_readUnit_45 (by decide) (fun c_51 => absurd c_51 (mneE (a := 1) (b := 0) (by decide +kernel) (by decide +kernel) (by omega))) (fun _ => ?_)
      refine lv_iconst (pc := 48) (v := 1) E.1 E.2.1 dX12_readUnit_48 (by decide +kernel) ?_
      refine lv_goto (pc := 49) (tgt := 53) E.1 E.2.1 dX12_readUnit_49 (by decide) ?_
      refine lv_iload_n (pc := 53) E.1 E.2.1 dX12_readUnit_53 rfl (lv_at hl49 0 rfl) ?_
      refine lv_if_eq (pc := 54) (tgt := 67) E.1 E.2.1 dX12_readUnit_54 (by decide) (fun c_52 => absurd c_52 (mneE (a := 1) (b := 0) (by decide +kernel) (by decide +kernel) (by omega))) (fun _ => ?_)
      refine lv_aload_n (pc := 57) E.1 E.2.1 dX12_readUnit_57 rfl (lv_at hl49 1 rfl) ?_
      refine x_get (pc := 58) (T := TX12) (N := 70) (ci := 12) (v := .int (mi 25)) E hw44 inX12 0 25 q_1424 rfl rfl (by decide) rfl rfl dX12_readUnit_58 ?_
      refine lv_bipush (pc := 61) (v := 6) E.1 E.2.1 dX12_readUnit_61 (by decide +kernel) ?_
      refine lv_isub (pc := 63) E.1 E.2.1 dX12_readUnit_63 ?_
      refine lv_topi (fun v_53 ev_53 => ?_)
      have hv_53 : v_53.toInt = (mi 25).toInt - 6 := by rw [ev_53]; exact subE rfl (by decide +kernel) (by omega)
      refine lv_goto (pc := 64) (tgt := 71) E.1 E.2.1 dX12_readUnit_64 (by decide) ?_
      refine cm_v (pc := 71) hw44 (rn_M (As := [.int 1, .int v_53]) (rest := []) E hw44 (s_emits2 l D cI cJ _ M mr mi mf mg 1 v_53 (by show 0 ≤ (mi 34).toInt ∧ (mi 34).toInt ≤ 399; omega)) (gdV q_1786 q_1788 q_82 q_162 q_1789) hdV_X12_emits ⟨rfl, rfl⟩ ⟨(Nat.le_of_ble_eq_true rfl), (Nat.le_of_ble_eq_true rfl)⟩ ⟨(Nat.le_of_ble_eq_true rfl), (Nat.le_of_ble_eq_true rfl)⟩ 12 rfl rfl rfl rfl hl49.1 rfl (Nat.le_of_ble_eq_true rfl) dX12_readUnit_71) (fun u_54 H1 locs hp hw56 => ?_)
      obtain ⟨gop_57, garg_58, ncodes_59⟩ := u_54
      generalize H1 = H at hw56 ⊢
      have hw60 : WD D A s.heap (MW cI cJ M mr (upd mi 34 ncodes_59) (va_up (va_up mf 31 gop_57) 32 garg_58) mg) H locs := hw56
      obtain ⟨hp_61, hp_62⟩ := hp
      have hp_61 : ncodes_59.toInt = (mi 34).toInt + 1 := hp_61
      have hp_62 : EM (mf 31) (mf 32) gop_57 garg_58 (800 + ((mi 34).toInt).toNat) (1 : Int32) v_53 := hp_62
      refine lv_aload_n (pc := 74) E.1 E.2.1 dX12_readUnit_74 rfl (lv_at hl49 1 rfl) ?_
      refine cm_v (pc := 75) hw60 (rn_M (As := []) (rest := []) E hw60 (s_reads l D cI cJ _ M mr (upd mi 34 ncodes_59) (va_up (va_up mf 31 gop_57) 32 garg_58) mg (by show 0 ≤ (mi 22).toInt; omega) (by show (mi 22).toInt ≤ (mi 21).toInt; omega) (by show (mi 21).toInt ≤ 400; omega) (by show ((mf 26) 153).toInt = 32; omega)) (gdV q_1666 q_1668 q_52 q_162 q_1669) hdV_X12_reads ⟨rfl, rfl⟩ ⟨(Nat.le_of_ble_eq_true rfl), (Nat.le_of_ble_eq_true rfl)⟩ ⟨(Nat.le_of_ble_eq_true rfl), (Nat.le_of_ble_eq_true rfl)⟩ 12 rfl rfl rfl rfl hl49.1 rfl (Nat.le_of_ble_eq_true rfl) dX12_readUnit_75) (fun u_63 H1 locs hp hw65 => ?_)
      obtain ⟨nspot_66, nfrom_67, ntoken_68, nvalue_69⟩ := u_63
      generalize H1 = H at hw65 ⊢
      have hw70 : WD D A s.heap (MW cI cJ M mr (upd (upd (upd (upd (upd mi 22 nspot_66) 23 nfrom_67) 24 ntoken_68) 25 nvalue_69) 34 ncodes_59) (va_up (va_up mf 31 gop_57) 32 garg_58) mg) H locs := hw65
      obtain ⟨hp_71, hp_72, hp_73, hp_74, hp_75, hp_76, hp_77⟩ := hp
      have hp_71 : 0 ≤ nfrom_67.toInt := hp_71
      have hp_72 : nfrom_67.toInt ≤ nspot_66.toInt := hp_72
      have hp_73 : nspot_66.toInt ≤ (mi 21).toInt := hp_73
      have hp_74 : 0 ≤ ntoken_68.toInt := hp_74
      have hp_75 : ntoken_68.toInt ≤ 4 := hp_75
      have hp_76 : ntoken_68.toInt ≤ 4 * nspot_66.toInt - 4 * nfrom_67.toInt := hp_76
      have hp_77 : (mi 22).toInt ≤ nfrom_67.toInt := hp_77
      refine lv_iconst (pc := 78) (v := 0) E.1 E.2.1 dX12_readUnit_78 (by decide +kernel) ?_
      exact em_i (w1 := (fun (u : Int32 × Int32 × Int32 × Int32 × (Nat → Int32) × (Nat → Int32) × Int32 × Int32 × Int32) => (MW cI cJ M mr (upd (upd (upd (upd (upd (upd (upd mi 22 u.1) 23 u.2.1) 24 u.2.2.1) 25 u.2.2.2.1) 34 u.2.2.2.2.2.2.1) 38 u.2.2.2.2.2.2.2.1) 39 u.2.2.2.2.2.2.2.2) (va_up (va_up mf 31 u.2.2.2.2.1) 32 u.2.2.2.2.2.1) mg))) E hr hlk (nspot_66, nfrom_67, ntoken_68, nvalue_69, gop_57, garg_58, ncodes_59, (mi 38), (mi 39)) hw70 ⟨(by show 0 ≤ nfrom_67.toInt; have k_0 : (0 : Int32).toInt = 0 := (by decide +kernel); omega), (by show nfrom_67.toInt ≤ nspot_66.toInt; have k_0 : (0 : Int32).toInt = 0 := (by decide +kernel); omega), (by show nspot_66.toInt ≤ (mi 21).toInt; have k_0 : (0 : Int32).toInt = 0 := (by decide +kernel); omega), (by show 0 ≤ ntoken_68.toInt; have k_0 : (0 : Int32).toInt = 0 := (by decide +kernel); omega), (by show ntoken_68.toInt ≤ 4; have k_0 : (0 : Int32).toInt = 0 := (by decide +kernel); omega), (by show ntoken_68.toInt ≤ 4 * nspot_66.toInt - 4 * nfrom_67.toInt; have k_0 : (0 : Int32).toInt = 0 := (by decide +kernel); omega), (by show 0 ≤ ncodes_59.toInt; have k_0 : (0 : Int32).toInt = 0 := (by decide +kernel); omega), (by show ncodes_59.toInt ≤ nfrom_67.toInt; have k_0 : (0 : Int32).toInt = 0 := (by decide +kernel); omega), (fun _ => (show TX (mf 31) (mf 32) (800 + ((mi 34).toInt).toNat) gop_57 garg_58 (800 + (ncodes_59.toInt).toNat) from (TX_num hp_62 (Or.inr ⟨rfl, by omega, by omega⟩) (by omega)))), (fun _ => (show ((mi 24).toInt = 3 → gop_57 (800 + ((mi 34).toInt).toNat) = 0 ∧ (garg_58 (800 + ((mi 34).toInt).toNat)).toInt = (mi 25).toInt) from (fun h => absurd h (by omega)))), (Or.inr (⟨rfl, (by show (mi 23).toInt - (mi 34).toInt ≤ nfrom_67.toInt - ncodes_59.toInt; omega), (by show (mi 23).toInt + 1 ≤ nfrom_67.toInt; omega), (by show ncodes_59.toInt = (mi 34).toInt + 1; omega)⟩))⟩ (Nat.le_of_ble_eq_true rfl) (Nat.le_of_ble_eq_true rfl) dX12_readUnit_79
    · skip
      refine lv_if_eq (pc := 16) (tgt := 23) E.1 E.2.1 dX12_readUnit_16 (by decide) (fun _ => ?_) (fun c_78 => absurd (meqE (a := 0) (b := 0) (by decide +kernel) (by decide +kernel) (by omega)) c_78)
      refine lv_iconst (pc := 23) (v := 0) E.1 E.2.1 dX12_readUnit_23 (by decide +kernel) ?_
      refine lv_istore_n (pc := 24) (lv' := [(1, .int 0), (0, .ref M)]) E.1 E.2.1 dX12_readUnit_24 rfl hl3 (by decide) rfl (fun ls hl79 => ?_)
      refine lv_iload_n (pc := 25) E.1 E.2.1 dX12_readUnit_25 rfl (lv_at hl79 0 rfl) ?_
      refine lv_if_ne (pc := 26) (tgt := 43) E.1 E.2.1 dX12_readUnit_26 (by decide) (fun c_80 => absurd (meqE (a := 0) (b := 0) (by decide +kernel) (by decide +kernel) (by omega)) c_80) (fun _ => ?_)
      refine lv_aload_n (pc := 29) E.1 E.2.1 dX12_readUnit_29 rfl (lv_at hl79 1 rfl) ?_
      refine x_get (pc := 30) (T := TX12) (N := 70) (ci := 12) (v := .int (mi 24)) E hw44 inX12 0 24 q_1423 rfl rfl (by decide) rfl rfl dX12_readUnit_30 ?_
      refine lv_iconst (pc := 33) (v := 3) E.1 E.2.1 dX12_readUnit_33 (by decide +kernel) ?_
      refine lv_icmp_eq (pc := 34) (tgt := 43) E.1 E.2.1 dX12_readUnit_34 (by decide) (fun c_81 => absurd c_81 (mneE (a := (mi 24).toInt) (b := 3) rfl (by decide +kernel) (by omega))) (fun _ => ?_)
      refine lv_aload_n (pc := 37) E.1 E.2.1 dX12_readUnit_37 rfl (lv_at hl79 1 rfl) ?_
      refine lv_iconst (pc := 38) (v := 1) E.1 E.2.1 dX12_readUnit_38 (by decide +kernel) ?_
      refine cm_i (pc := 39) hw44 (rn_M (As := [.int 1]) (rest := []) E hw44 (s_errs2 l D cI cJ _ M mr mi mf mg 1) (gdV q_1698 q_1700 q_60 q_162 q_1701) hdV_X12_errs ⟨rfl, rfl⟩ ⟨(Nat.le_of_ble_eq_true rfl), (Nat.le_of_ble_eq_true rfl)⟩ ⟨(Nat.le_of_ble_eq_true rfl), (Nat.le_of_ble_eq_true rfl)⟩ 12 rfl rfl rfl rfl hl79.1 rfl (Nat.le_of_ble_eq_true rfl) dX12_readUnit_39) (fun r_83 u_82 H1 locs hp hw84 => ?_)
      obtain ⟨nreadFault_85, nreadPlace_86⟩ := u_82
      generalize H1 = H at hw84 ⊢
      have hw87 : WD D A s.heap (MW cI cJ M mr (upd (upd mi 38 nreadFault_85) 39 nreadPlace_86) mf mg) H locs := hw84
      have hp_88 := hp
      rcases hp_88 with rfl
      · skip
        exact em_i (w1 := (fun (u : Int32 × Int32 × Int32 × Int32 × (Nat → Int32) × (Nat → Int32) × Int32 × Int32 × Int32) => (MW cI cJ M mr (upd (upd (upd (upd (upd (upd (upd mi 22 u.1) 23 u.2.1) 24 u.2.2.1) 25 u.2.2.2.1) 34 u.2.2.2.2.2.2.1) 38 u.2.2.2.2.2.2.2.1) 39 u.2.2.2.2.2.2.2.2) (va_up (va_up mf 31 u.2.2.2.2.1) 32 u.2.2.2.2.2.1) mg))) E hr hlk ((mi 22), (mi 23), (mi 24), (mi 25), (mf 31), (mf 32), (mi 34), nreadFault_85, nreadPlace_86) hw87 ⟨(by show 0 ≤ (mi 23).toInt; have k_0 : ((-1) : Int32).toInt = -1 := (by decide +kernel); omega), (by show (mi 23).toInt ≤ (mi 22).toInt; have k_0 : ((-1) : Int32).toInt = -1 := (by decide +kernel); omega), (by show (mi 22).toInt ≤ (mi 21).toInt; have k_0 : ((-1) : Int32).toInt = -1 := (by decide +kernel); omega), (by show 0 ≤ (mi 24).toInt; have k_0 : ((-1) : Int32).toInt = -1 := (by decide +kernel); omega), (by show (mi 24).toInt ≤ 4; have k_0 : ((-1) : Int32).toInt = -1 := (by decide +kernel); omega), (by show (mi 24).toInt ≤ 4 * (mi 22).toInt - 4 * (mi 23).toInt; have k_0 : ((-1) : Int32).toInt = -1 := (by decide +kernel); omega), (by show 0 ≤ (mi 34).toInt; have k_0 : ((-1) : Int32).toInt = -1 := (by decide +kernel); omega), (by show (mi 34).toInt ≤ (mi 23).toInt; have k_0 : ((-1) : Int32).toInt = -1 := (by decide +kernel); omega), (fun h => absurd h (by decide +kernel)), (fun h => absurd h (by decide +kernel)), (Or.inl rfl)⟩ (Nat.le_of_ble_eq_true rfl) (Nat.le_of_ble_eq_true rfl) dX12_readUnit_42

set_option maxHeartbeats 4000000 in
set_option maxRecDepth 100000 in
theorem s_readProduct (l : Launch) (D : va_G) (cI cJ : ClassId) (sz M : Nat) (mr : Nat → Nat) (mi : Nat → Int32) (mf : Nat → Nat → Int32) (mg : Nat → Nat → Int64)  (h0 : 0 ≤ (mi 23).toInt) (h1 : (mi 23).toInt ≤ (mi 22).toInt) (h2 : (mi 22).toInt ≤ (mi 21).toInt) (h3 : (mi 21).toInt ≤ 400) (h4 : 0 ≤ (mi 24).toInt) (h5 : (mi 24).toInt ≤ 4) (h6 : (mi 24).toInt ≤ 4 * (mi 22).toInt - 4 * (mi 23).toInt) (h7 : ((mf 26) 153).toInt = 32) (h8 : 0 ≤ (mi 34).toInt) (h9 : (mi 34).toInt ≤ (mi 23).toInt) : Met l yX12_readProduct (Cond.code yX12_readProduct cX12_readProduct 2 (some .int) :: GW) ({ frames := 5, cells := 0, slots := 0, locals := 126 } : Room) (va_Pc [.ref M] (PW D cI cJ sz (MW cI cJ M mr mi mf mg) xT)) (va_Qi (fun (r : Int32) (u : Int32 × Int32 × Int32 × Int32 × (Nat → Int32) × (Nat → Int32) × Int32 × Int32 × Int32) => (0 ≤ u.2.1.toInt) ∧ (u.2.1.toInt ≤ u.1.toInt) ∧ (u.1.toInt ≤ (mi 21).toInt) ∧ (0 ≤ u.2.2.1.toInt) ∧ (u.2.2.1.toInt ≤ 4) ∧ (u.2.2.1.toInt ≤ 4 * u.1.toInt - 4 * u.2.1.toInt) ∧ (0 ≤ u.2.2.2.2.2.2.1.toInt) ∧ (u.2.2.2.2.2.2.1.toInt ≤ u.2.1.toInt) ∧ (r = 0 → TX (mf 31) (mf 32) (800 + ((mi 34).toInt).toNat) u.2.2.2.2.1 u.2.2.2.2.2.1 (800 + (u.2.2.2.2.2.2.1.toInt).toNat)) ∧ ((r = (-1)) ∨ (r = 0 ∧ (mi 23).toInt - (mi 34).toInt ≤ u.2.1.toInt - u.2.2.2.2.2.2.1.toInt ∧ (mi 23).toInt + 1 ≤ u.2.1.toInt))) (fun u => QW D cI cJ (va_A (MW cI cJ M mr mi mf mg) sz) ((fun (u : Int32 × Int32 × Int32 × Int32 × (Nat → Int32) × (Nat → Int32) × Int32 × Int32 × Int32) => (MW cI cJ M mr (upd (upd (upd (upd (upd (upd (upd mi 22 u.1) 23 u.2.1) 24 u.2.2.1) 25 u.2.2.2.1) 34 u.2.2.2.2.2.2.1) 38 u.2.2.2.2.2.2.2.1) 39 u.2.2.2.2.2.2.2.2) (va_up (va_up mf 31 u.2.2.2.2.1) 32 u.2.2.2.2.2.1) mg)) u)) (va_A (MW cI cJ M mr mi mf mg) sz)) 0 0 (va_A (MW cI cJ M mr mi mf mg) sz) := by
  refine mk_met (y := yX12_readProduct) (bytes := cX12_readProduct) (maxL := 2) (avs := [.ref M]) (WS := (MW cI cJ M mr mi mf mg)) (Qf := fun A => va_Qi (fun (r : Int32) (u : Int32 × Int32 × Int32 × Int32 × (Nat → Int32) × (Nat → Int32) × Int32 × Int32 × Int32) => (0 ≤ u.2.1.toInt) ∧ (u.2.1.toInt ≤ u.1.toInt) ∧ (u.1.toInt ≤ (mi 21).toInt) ∧ (0 ≤ u.2.2.1.toInt) ∧ (u.2.2.1.toInt ≤ 4) ∧ (u.2.2.1.toInt ≤ 4 * u.1.toInt - 4 * u.2.1.toInt) ∧ (0 ≤ u.2.2.2.2.2.2.1.toInt) ∧ (u.2.2.2.2.2.2.1.toInt ≤ u.2.1.toInt) ∧ (r = 0 → TX (mf 31) (mf 32) (800 + ((mi 34).toInt).toNat) u.2.2.2.2.1 u.2.2.2.2.2.1 (800 + (u.2.2.2.2.2.2.1.toInt).toNat)) ∧ ((r = (-1)) ∨ (r = 0 ∧ (mi 23).toInt - (mi 34).toInt ≤ u.2.1.toInt - u.2.2.2.2.2.2.1.toInt ∧ (mi 23).toInt + 1 ≤ u.2.1.toInt))) (fun u => QW D cI cJ A ((fun (u : Int32 × Int32 × Int32 × Int32 × (Nat → Int32) × (Nat → Int32) × Int32 × Int32 × Int32) => (MW cI cJ M mr (upd (upd (upd (upd (upd (upd (upd mi 22 u.1) 23 u.2.1) 24 u.2.2.1) 25 u.2.2.2.1) 34 u.2.2.2.2.2.2.1) 38 u.2.2.2.2.2.2.2.1) 39 u.2.2.2.2.2.2.2.2) (va_up (va_up mf 31 u.2.2.2.2.1) 32 u.2.2.2.2.2.1) mg)) u)) A) (by decide) (Nat.le_of_ble_eq_true rfl) ?_
  intro p e s m below meth c A ls E hr hlk hnm hX hw1 hl2
  have hl3 : lv_has ls 2 [(0, .ref M)] := hl2
  refine lv_aload_n (pc := 0) E.1 E.2.1 dX12_readProduct_0 rfl (lv_at hl3 0 rfl) ?_
  refine cm_i (pc := 1) hw1 (rn_M (As := []) (rest := []) E hw1 (s_readUnit l D cI cJ _ M mr mi mf mg (by show 0 ≤ (mi 23).toInt; omega) (by show (mi 23).toInt ≤ (mi 22).toInt; omega) (by show (mi 22).toInt ≤ (mi 21).toInt; omega) (by show (mi 21).toInt ≤ 400; omega) (by show 0 ≤ (mi 24).toInt; omega) (by show (mi 24).toInt ≤ 4; omega) (by show (mi 24).toInt ≤ 4 * (mi 22).toInt - 4 * (mi 23).toInt; omega) (by show ((mf 26) 153).toInt = 32; omega) (by show 0 ≤ (mi 34).toInt; omega) (by show (mi 34).toInt ≤ (mi 23).toInt; omega)) (gdV q_1778 q_1780 q_80 q_162 q_1781) hdV_X12_readUnit ⟨rfl, rfl⟩ ⟨(Nat.le_of_ble_eq_true rfl), (Nat.le_of_ble_eq_true rfl)⟩ ⟨(Nat.le_of_ble_eq_true rfl), (Nat.le_of_ble_eq_true rfl)⟩ 12 rfl rfl rfl rfl hl3.1 rfl (Nat.le_of_ble_eq_true rfl) dX12_readProduct_1) (fun r_5 u_4 H1 locs hp hw6 => ?_)
  obtain ⟨nspot_7, nfrom_8, ntoken_9, nvalue_10, gop_11, garg_12, ncodes_13, nreadFault_14, nreadPlace_15⟩ := u_4
  generalize H1 = H at hw6 ⊢
  have hw16 : WD D A s.heap (MW cI cJ M mr (upd (upd (upd (upd (upd (upd (upd mi 22 nspot_7) 23 nfrom_8) 24 ntoken_9) 25 nvalue_10) 34 ncodes_13) 38 nreadFault_14) 39 nreadPlace_15) (va_up (va_up mf 31 gop_11) 32 garg_12) mg) H locs := hw6
  obtain ⟨hp_17, hp_18, hp_19, hp_20, hp_21, hp_22, hp_23, hp_24, hp_25, hp_26, hp_27⟩ := hp
  have hp_17 : 0 ≤ nfrom_8.toInt := hp_17
  have hp_18 : nfrom_8.toInt ≤ nspot_7.toInt := hp_18
  have hp_19 : nspot_7.toInt ≤ (mi 21).toInt := hp_19
  have hp_20 : 0 ≤ ntoken_9.toInt := hp_20
  have hp_21 : ntoken_9.toInt ≤ 4 := hp_21
  have hp_22 : ntoken_9.toInt ≤ 4 * nspot_7.toInt - 4 * nfrom_8.toInt := hp_22
  have hp_23 : 0 ≤ ncodes_13.toInt := hp_23
  have hp_24 : ncodes_13.toInt ≤ nfrom_8.toInt := hp_24
  have hp_25 : r_5 = 0 → TX (mf 31) (mf 32) (800 + ((mi 34).toInt).toNat) gop_11 garg_12 (800 + (ncodes_13.toInt).toNat) := hp_25
  have hp_26 : r_5 = 0 → ((mi 24).toInt = 3 → gop_11 (800 + ((mi 34).toInt).toNat) = 0 ∧ (garg_12 (800 + ((mi 34).toInt).toNat)).toInt = (mi 25).toInt) := hp_26
  rcases hp_27 with rfl | ⟨rfl, ha_28, ha_29, ha_30⟩
  · skip
    refine lv_iconst (pc := 4) (v := (-1)) E.1 E.2.1 dX12_readProduct_4 (by decide +kernel) ?_
    refine lv_icmp_ne (pc := 5) (tgt := 10) E.1 E.2.1 dX12_readProduct_5 (by decide) (fun c_31 => absurd (meqE (a := (-1)) (b := (-1)) (by decide +kernel) (by decide +kernel) (by omega)) c_31) (fun _ => ?_)
    refine lv_iconst (pc := 8) (v := (-1)) E.1 E.2.1 dX12_readProduct_8 (by decide +kernel) ?_
    exact em_i (w1 := (fun (u : Int32 × Int32 × Int32 × Int32 × (Nat → Int32) × (Nat → Int32) × Int32 × Int32 × Int32) => (MW cI cJ M mr (upd (upd (upd (upd (upd (upd (upd mi 22 u.1) 23 u.2.1) 24 u.2.2.1) 25 u.2.2.2.1) 34 u.2.2.2.2.2.2.1) 38 u.2.2.2.2.2.2.2.1) 39 u.2.2.2.2.2.2.2.2) (va_up (va_up mf 31 u.2.2.2.2.1) 32 u.2.2.2.2.2.1) mg))) E hr hlk (nspot_7, nfrom_8, ntoken_9, nvalue_10, gop_11, garg_12, ncodes_13, nreadFault_14, nreadPlace_15) hw16 ⟨(by show 0 ≤ nfrom_8.toInt; have k_0 : ((-1) : Int32).toInt = -1 := (by decide +kernel); omega), (by show nfrom_8.toInt ≤ nspot_7.toInt; have k_0 : ((-1) : Int32).toInt = -1 := (by decide +kernel); omega), (by show nspot_7.toInt ≤ (mi 21).toInt; have k_0 : ((-1) : Int32).toInt = -1 := (by decide +kernel); omega), (by show 0 ≤ ntoken_9.toInt; have k_0 : ((-1) : Int32).toInt = -1 := (by decide +kernel); omega), (by show ntoken_9.toInt ≤ 4; have k_0 : ((-1) : Int32).toInt = -1 := (by decide +kernel); omega), (by show ntoken_9.toInt ≤ 4 * nspot_7.toInt - 4 * nfrom_8.toInt; have k_0 : ((-1) : Int32).toInt = -1 := (by decide +kernel); omega), (by show 0 ≤ ncodes_13.toInt; have k_0 : ((-1) : Int32).toInt = -1 := (by decide +kernel); omega), (by show ncodes_13.toInt ≤ nfrom_8.toInt; have k_0 : ((-1) : Int32).toInt = -1 := (by decide +kernel); omega), (fun h => absurd h (by decide +kernel)), (Or.inl rfl)⟩ (Nat.le_of_ble_eq_true rfl) (Nat.le_of_ble_eq_true rfl) dX12_readProduct_9
  · skip
    have hp_25 := hp_25 rfl
    have hp_26 := hp_26 rfl
    have ha_28 : (mi 23).toInt - (mi 34).toInt ≤ nfrom_8.toInt - ncodes_13.toInt := ha_28
    have ha_29 : (mi 23).toInt + 1 ≤ nfrom_8.toInt := ha_29
    have ha_30 : ncodes_13.toInt = (mi 34).toInt + 1 := ha_30
    refine lv_iconst (pc := 4) (v := (-1)) E.1 E.2.1 dX12_readProduct_4 (by decide +kernel) ?_
    refine lv_icmp_ne (pc := 5) (tgt := 10) E.1 E.2.1 dX12_readProduct_5 (by decide) (fun _ => ?_) (fun c_32 => absurd c_32 (mneE (a := 0) (b := (-1)) (by decide +kernel) (by decide +kernel) (by omega)))
    have loop_33 : ∀ (k : Nat) (x_34 : Int32) (x_35 : Int32) (x_36 : Int32) (x_37 : Int32) (x_38 : Int32) (x_39 : Int32) (x_40 : Int32) (g_41 : Nat → Int32) (g_42 : Nat → Int32) (H : Heap) (locs : List Loc) (ls : Array Slot), (0 ≤ x_35.toInt) ∧ (x_35.toInt ≤ x_34.toInt) ∧ (x_34.toInt ≤ (mi 21).toInt) ∧ (0 ≤ x_36.toInt) ∧ (x_36.toInt ≤ 4) ∧ (x_36.toInt ≤ 4 * x_34.toInt - 4 * x_35.toInt) ∧ (0 ≤ x_38.toInt) ∧ (x_38.toInt ≤ x_35.toInt) ∧ ((mi 23).toInt - (mi 34).toInt ≤ x_35.toInt - x_38.toInt) ∧ ((mi 23).toInt + 1 ≤ x_35.toInt) ∧ (TX (mf 31) (mf 32) (800 + ((mi 34).toInt).toNat) g_41 g_42 (800 + (x_38.toInt).toNat)) → (mi 21).toInt - x_35.toInt < (k : Int) → WD D A s.heap (MW cI cJ M mr (upd (upd (upd (upd (upd (upd (upd mi 22 x_34) 23 x_35) 24 x_36) 25 x_37) 34 x_38) 38 x_39) 39 x_40) (va_up (va_up mf 31 g_41) 32 g_42) mg) H locs → lv_has ls 2 [(0, .ref M)] → W p l e ({ frames := 5, cells := 0, slots := 0, locals := 126 } : Room) s m ([.ref M] : List Value).toArray below meth c H locs 0 0 (MQ below (va_Qi (fun (r : Int32) (u : Int32 × Int32 × Int32 × Int32 × (Nat → Int32) × (Nat → Int32) × Int32 × Int32 × Int32) => (0 ≤ u.2.1.toInt) ∧ (u.2.1.toInt ≤ u.1.toInt) ∧ (u.1.toInt ≤ (mi 21).toInt) ∧ (0 ≤ u.2.2.1.toInt) ∧ (u.2.2.1.toInt ≤ 4) ∧ (u.2.2.1.toInt ≤ 4 * u.1.toInt - 4 * u.2.1.toInt) ∧ (0 ≤ u.2.2.2.2.2.2.1.toInt) ∧ (u.2.2.2.2.2.2.1.toInt ≤ u.2.1.toInt) ∧ (r = 0 → TX (mf 31) (mf 32) (800 + ((mi 34).toInt).toNat) u.2.2.2.2.1 u.2.2.2.2.2.1 (800 + (u.2.2.2.2.2.2.1.toInt).toNat)) ∧ ((r = (-1)) ∨ (r = 0 ∧ (mi 23).toInt - (mi 34).toInt ≤ u.2.1.toInt - u.2.2.2.2.2.2.1.toInt ∧ (mi 23).toInt + 1 ≤ u.2.1.toInt))) (fun u => QW D cI cJ A ((fun (u : Int32 × Int32 × Int32 × Int32 × (Nat → Int32) × (Nat → Int32) × Int32 × Int32 × Int32) => (MW cI cJ M mr (upd (upd (upd (upd (upd (upd (upd mi 22 u.1) 23 u.2.1) 24 u.2.2.1) 25 u.2.2.2.1) 34 u.2.2.2.2.2.2.1) 38 u.2.2.2.2.2.2.2.1) 39 u.2.2.2.2.2.2.2.2) (va_up (va_up mf 31 u.2.2.2.2.1) 32 u.2.2.2.2.2.1) mg)) u)) A) ([.ref M] : List Value).toArray s 0 0 A) (F0 m 10 ls []) := by
      intro k
      induction k with
      | zero =>
        intro x_34 x_35 x_36 x_37 x_38 x_39 x_40 g_41 g_42 _ _ _ hinv hm
        obtain ⟨hi_42_0, hi_42_1, hi_42_2, hi_42_3, hi_42_4, hi_42_5, hi_42_6, hi_42_7, hi_42_8, hi_42_9, hi_42_10⟩ := hinv
        exact absurd hm (by omega)
      | succ k ih_43 =>
        intro x_34 x_35 x_36 x_37 x_38 x_39 x_40 g_41 g_42 H locs ls hinv hm hw44 hl45
        obtain ⟨hi_42_0, hi_42_1, hi_42_2, hi_42_3, hi_42_4, hi_42_5, hi_42_6, hi_42_7, hi_42_8, hi_42_9, hi_42_10⟩ := hinv
        refine lv_aload_n (pc := 10) E.1 E.2.1 dX12_readProduct_10 rfl (lv_at hl45 0 rfl) ?_
        refine lv_bipush (pc := 11) (v := 42) E.1 E.2.1 dX12_readProduct_11 (by decide +kernel) ?_
        refine cm_i (pc := 13) hw44 (rn_M (As := [.int 42]) (rest := []) E hw44 (s_isSign2 l D cI cJ _ M mr (upd (upd (upd (upd (upd (upd (upd mi 22 x_34) 23 x_35) 24 x_36) 25 x_37) 34 x_38) 38 x_39) 39 x_40) (va_up (va_up mf 31 g_41) 32 g_42) mg 42) (gdV q_1718 q_1720 q_65 q_162 q_1721) hdV_X12_isSign ⟨rfl, rfl⟩ ⟨(Nat.le_of_ble_eq_true rfl), (Nat.le_of_ble_eq_true rfl)⟩ ⟨(Nat.le_of_ble_eq_true rfl), (Nat.le_of_ble_eq_true rfl)⟩ 12 rfl rfl rfl rfl hl45.1 rfl (Nat.le_of_ble_eq_true rfl) dX12_readProduct_13) (fun r_47 u_46 H1 locs hp hw48 => ?_)
        generalize H1 = H at hw48 ⊢
        have hw49 : WD D A s.heap (MW cI cJ M mr (upd (upd (upd (upd (upd (upd (upd mi 22 x_34) 23 x_35) 24 x_36) 25 x_37) 34 x_38) 38 x_39) 39 x_40) (va_up (va_up mf 31 g_41) 32 g_42) mg) H locs := hw48
        have hp_50 := hp
        rcases hp_50 with ⟨rfl, ha_51, ha_52⟩ | rfl
        · skip
          have ha_51 : x_36.toInt = 4 := ha_51
          have ha_52 : x_37.toInt = (42 : Int32).toInt := ha_52
          rw [show (42 : Int32).toInt = 42 from by decide +kernel] at ha_52
          refine lv_if_ne (pc := 16) (tgt := 28) E.1 E.2.1 dX12_readProduct_16 (by decide) (fun _ => ?_) (fun c_53 => absurd c_53 (mneE (a := 1) (b := 0) (by decide +kernel) (by decide +kernel) (by omega)))
          refine lv_aload_n (pc := 28) E.1 E.2.1 dX12_readProduct_28 rfl (lv_at hl45 0 rfl) ?_
          refine lv_bipush (pc := 29) (v := 42) E.1 E.2.1 dX12_readProduct_29 (by decide +kernel) ?_
          refine cm_i (pc := 31) hw49 (rn_M (As := [.int 42]) (rest := []) E hw49 (s_isSign2 l D cI cJ _ M mr (upd (upd (upd (upd (upd (upd (upd mi 22 x_34) 23 x_35) 24 x_36) 25 x_37) 34 x_38) 38 x_39) 39 x_40) (va_up (va_up mf 31 g_41) 32 g_42) mg 42) (gdV q_1718 q_1720 q_65 q_162 q_1721) hdV_X12_isSign ⟨rfl, rfl⟩ ⟨(Nat.le_of_ble_eq_true rfl), (Nat.le_of_ble_eq_true rfl)⟩ ⟨(Nat.le_of_ble_eq_true rfl), (Nat.le_of_ble_eq_true rfl)⟩ 12 rfl rfl rfl rfl hl45.1 rfl (Nat.le_of_ble_eq_true rfl) dX12_readProduct_31) (fun r_55 u_54 H1 locs hp hw56 => ?_)
          generalize H1 = H at hw56 ⊢
          have hw57 : WD D A s.heap (MW cI cJ M mr (upd (upd (upd (upd (upd (upd (upd mi 22 x_34) 23 x_35) 24 x_36) 25 x_37) 34 x_38) 38 x_39) 39 x_40) (va_up (va_up mf 31 g_41) 32 g_42) mg) H locs := hw56
          have hp_58 := hp
          rcases hp_58 with ⟨rfl, ha_59, ha_60⟩ | rfl
          · skip
            have ha_59 : x_36.toInt = 4 := ha_59
            have ha_60 : x_37.toInt = (42 : Int32).toInt := ha_60
            rw [show (42 : Int32).toInt = 42 from by decide +kernel] at ha_60
            refine lv_istore_n (pc := 34) (lv' := [(1, .int 1), (0, .ref M)]) E.1 E.2.1 dX12_readProduct_34 rfl hl45 (by decide) rfl (fun ls hl61 => ?_)
            refine lv_aload_n (pc := 35) E.1 E.2.1 dX12_readProduct_35 rfl (lv_at hl61 1 rfl) ?_
            refine cm_v (pc := 36) hw57 (rn_M (As := []) (rest := []) E hw57 (s_reads l D cI cJ _ M mr (upd (upd (upd (upd (upd (upd (upd mi 22 x_34) 23 x_35) 24 x_36) 25 x_37) 34 x_38) 38 x_39) 39 x_40) (va_up (va_up mf 31 g_41) 32 g_42) mg (by show 0 ≤ x_34.toInt; omega) (by show x_34.toInt ≤ (mi 21).toInt; omega) (by show (mi 21).toInt ≤ 400; omega) (by show ((mf 26) 153).toInt = 32; omega)) (gdV q_1666 q_1668 q_52 q_162 q_1669) hdV_X12_reads ⟨rfl, rfl⟩ ⟨(Nat.le_of_ble_eq_true rfl), (Nat.le_of_ble_eq_true rfl)⟩ ⟨(Nat.le_of_ble_eq_true rfl), (Nat.le_of_ble_eq_true rfl)⟩ 12 rfl rfl rfl rfl hl61.1 rfl (Nat.le_of_ble_eq_true rfl) dX12_readProduct_36) (fun u_62 H1 locs hp hw64 => ?_)
            obtain ⟨nspot_65, nfrom_66, ntoken_67, nvalue_68⟩ := u_62
            generalize H1 = H at hw64 ⊢
            have hw69 : WD D A s.heap (MW cI cJ M mr (upd (upd (upd (upd (upd (upd (upd mi 22 nspot_65) 23 nfrom_66) 24 ntoken_67) 25 nvalue_68) 34 x_38) 38 x_39) 39 x_40) (va_up (va_up mf 31 g_41) 32 g_42) mg) H locs := hw64
            obtain ⟨hp_70, hp_71, hp_72, hp_73, hp_74, hp_75, hp_76⟩ := hp
            have hp_70 : 0 ≤ nfrom_66.toInt := hp_70
            have hp_71 : nfrom_66.toInt ≤ nspot_65.toInt := hp_71
            have hp_72 : nspot_65.toInt ≤ (mi 21).toInt := hp_72
            have hp_73 : 0 ≤ ntoken_67.toInt := hp_73
            have hp_74 : ntoken_67.toInt ≤ 4 := hp_74
            have hp_75 : ntoken_67.toInt ≤ 4 * nspot_65.toInt - 4 * nfrom_66.toInt := hp_75
            have hp_76 : x_34.toInt ≤ nfrom_66.toInt := hp_76
            refine lv_iload_n (pc := 39) E.1 E.2.1 dX12_readProduct_39 rfl (lv_at hl61 0 rfl) ?_
            refine lv_if_ne (pc := 40) (tgt := 57) E.1 E.2.1 dX12_readProduct_40 (by decide) (fun _ => ?_) (fun c_77 => absurd c_77 (mneE (a := 1) (b := 0) (by decide +kernel) (by decide +kernel) (by omega)))
            refine lv_iload_n (pc := 57) E.1 E.2.1 dX12_readProduct_57 rfl (lv_at hl61 0 rfl) ?_
            refine lv_if_ne (pc := 58) (tgt := 74) E.1 E.2.1 dX12_readProduct_58 (by decide) (fun _ => ?_) (fun c_78 => absurd c_78 (mneE (a := 1) (b := 0) (by decide +kernel) (by decide +kernel) (by omega)))
            refine lv_aload_n (pc := 74) E.1 E.2.1 dX12_readProduct_74 rfl (lv_at hl61 1 rfl) ?_
            refine cm_i (pc := 75) hw69 (rn_M (As := []) (rest := []) E hw69 (s_readUnit l D cI cJ _ M mr (upd (upd (upd (upd (upd (upd (upd mi 22 nspot_65) 23 nfrom_66) 24 ntoken_67) 25 nvalue_68) 34 x_38) 38 x_39) 39 x_40) (va_up (va_up mf 31 g_41) 32 g_42) mg (by show 0 ≤ nfrom_66.toInt; omega) (by show nfrom_66.toInt ≤ nspot_65.toInt; omega) (by show nspot_65.toInt ≤ (mi 21).toInt; omega) (by show (mi 21).toInt ≤ 400; omega) (by show 0 ≤ ntoken_67.toInt; omega) (by show ntoken_67.toInt ≤ 4; omega) (by show ntoken_67.toInt ≤ 4 * nspot_65.toInt - 4 * nfrom_66.toInt; omega) (by show ((mf 26) 153).toInt = 32; omega) (by show 0 ≤ x_38.toInt; omega) (by show x_38.toInt ≤ nfrom_66.toInt; omega)) (gdV q_1778 q_1780 q_80 q_162 q_1781) hdV_X12_readUnit ⟨rfl, rfl⟩ ⟨(Nat.le_of_ble_eq_true rfl), (Nat.le_of_ble_eq_true rfl)⟩ ⟨(Nat.le_of_ble_eq_true rfl), (Nat.le_of_ble_eq_true rfl)⟩ 12 rfl rfl rfl rfl hl61.1 rfl (Nat.le_of_ble_eq_true rfl) dX12_readProduct_75) (fun r_80 u_79 H1 locs hp hw81 => ?_)
            obtain ⟨nspot_82, nfrom_83, ntoken_84, nvalue_85, gop_86, garg_87, ncodes_88, nreadFault_89, nreadPlace_90⟩ := u_79
            generalize H1 = H at hw81 ⊢
            have hw91 : WD D A s.heap (MW cI cJ M mr (upd (upd (upd (upd (upd (upd (upd mi 22 nspot_82) 23 nfrom_83) 24 ntoken_84) 25 nvalue_85) 34 ncodes_88) 38 nreadFault_89) 39 nreadPlace_90) (va_up (va_up mf 31 gop_86) 32 garg_87) mg) H locs := hw81
            obtain ⟨hp_92, hp_93, hp_94, hp_95, hp_96, hp_97, hp_98, hp_99, hp_100, hp_101, hp_102⟩ := hp
            have hp_92 : 0 ≤ nfrom_83.toInt := hp_92
            have hp_93 : nfrom_83.toInt ≤ nspot_82.toInt := hp_93
            have hp_94 : nspot_82.toInt ≤ (mi 21).toInt := hp_94
            have hp_95 : 0 ≤ ntoken_84.toInt := hp_95
            have hp_96 : ntoken_84.toInt ≤ 4 := hp_96
            have hp_97 : ntoken_84.toInt ≤ 4 * nspot_82.toInt - 4 * nfrom_83.toInt := hp_97
            have hp_98 : 0 ≤ ncodes_88.toInt := hp_98
            have hp_99 : ncodes_88.toInt ≤ nfrom_83.toInt := hp_99
            have hp_100 : r_80 = 0 → TX g_41 g_42 (800 + (x_38.toInt).toNat) gop_86 garg_87 (800 + (ncodes_88.toInt).toNat) := hp_100
            have hp_101 : r_80 = 0 → (ntoken_67.toInt = 3 → gop_86 (800 + (x_38.toInt).toNat) = 0 ∧ (garg_87 (800 + (x_38.toInt).toNat)).toInt = nvalue_68.toInt) := hp_101
            rcases hp_102 with rfl | ⟨rfl, ha_103, ha_104, ha_105⟩
            · skip
              refine lv_iconst (pc := 78) (v := (-1)) E.1 E.2.1 dX12_readProduct_78 (by decide +kernel) ?_
              refine lv_icmp_ne (pc := 79) (tgt := 84) E.1 E.2.1 dX12_readProduct_79 (by decide) (fun c_106 => absurd (meqE (a := (-1)) (b := (-1)) (by decide +kernel) (by decide +kernel) (by omega)) c_106) (fun _ => ?_)
              refine lv_iconst (pc := 82) (v := (-1)) E.1 E.2.1 dX12_readProduct_82 (by decide +kernel) ?_
              exact em_i (w1 := (fun (u : Int32 × Int32 × Int32 × Int32 × (Nat → Int32) × (Nat → Int32) × Int32 × Int32 × Int32) => (MW cI cJ M mr (upd (upd (upd (upd (upd (upd (upd mi 22 u.1) 23 u.2.1) 24 u.2.2.1) 25 u.2.2.2.1) 34 u.2.2.2.2.2.2.1) 38 u.2.2.2.2.2.2.2.1) 39 u.2.2.2.2.2.2.2.2) (va_up (va_up mf 31 u.2.2.2.2.1) 32 u.2.2.2.2.2.1) mg))) E hr hlk (nspot_82, nfrom_83, ntoken_84, nvalue_85, gop_86, garg_87, ncodes_88, nreadFault_89, nreadPlace_90) hw91 ⟨(by show 0 ≤ nfrom_83.toInt; have k_0 : ((-1) : Int32).toInt = -1 := (by decide +kernel); omega), (by show nfrom_83.toInt ≤ nspot_82.toInt; have k_0 : ((-1) : Int32).toInt = -1 := (by decide +kernel); omega), (by show nspot_82.toInt ≤ (mi 21).toInt; have k_0 : ((-1) : Int32).toInt = -1 := (by decide +kernel); omega), (by show 0 ≤ ntoken_84.toInt; have k_0 : ((-1) : Int32).toInt = -1 := (by decide +kernel); omega), (by show ntoken_84.toInt ≤ 4; have k_0 : ((-1) : Int32).toInt = -1 := (by decide +kernel); omega), (by show ntoken_84.toInt ≤ 4 * nspot_82.toInt - 4 * nfrom_83.toInt; have k_0 : ((-1) : Int32).toInt = -1 := (by decide +kernel); omega), (by show 0 ≤ ncodes_88.toInt; have k_0 : ((-1) : Int32).toInt = -1 := (by decide +kernel); omega), (by show ncodes_88.toInt ≤ nfrom_83.toInt; have k_0 : ((-1) : Int32).toInt = -1 := (by decide +kernel); omega), (fun h => absurd h (by decide +kernel)), (Or.inl rfl)⟩ (Nat.le_of_ble_eq_true rfl) (Nat.le_of_ble_eq_true rfl) dX12_readProduct_83
            · skip
              have hp_100 := hp_100 rfl
              have hp_101 := hp_101 rfl
              have ha_103 : nfrom_66.toInt - x_38.toInt ≤ nfrom_83.toInt - ncodes_88.toInt := ha_103
              have ha_104 : nfrom_66.toInt + 1 ≤ nfrom_83.toInt := ha_104
              have ha_105 : ncodes_88.toInt = x_38.toInt + 1 := ha_105
              refine lv_iconst (pc := 78) (v := (-1)) E.1 E.2.1 dX12_readProduct_78 (by decide +kernel) ?_
              refine lv_icmp_ne (pc := 79) (tgt := 84) E.1 E.2.1 dX12_readProduct_79 (by decide) (fun _ => ?_) (fun c_107 => absurd c_107 (mneE (a := 0) (b := (-1)) (by decide +kernel) (by decide +kernel) (by omega)))
              refine lv_aload_n (pc := 84) E.1 E.2.1 dX12_readProduct_84 rfl (lv_at hl61 1 rfl) ?_
              refine lv_iload_n (pc := 85) E.1 E.2.1 dX12_readProduct_85 rfl (lv_at hl61 0 rfl) ?_
              refine lv_if_eq (pc := 86) (tgt := 93) E.1 E.2.1 dX12_readProduct_86 (by decide) (fun c_108 => absurd c_108 (mneE (a := 1) (b := 0) (by decide +kernel) (by decide +kernel) (by omega))) (fun _ => ?_)
              refine lv_iconst (pc := 89) (v := 4) E.1 E.2.1 dX12_readProduct_89 (by decide +kernel) ?_
              refine lv_goto (pc := 90) (tgt := 94) E.1 E.2.1 dX12_readProduct_90 (by decide) ?_
              refine lv_iconst (pc := 94) (v := 0) E.1 E.2.1 dX12_readProduct_94 (by decide +kernel) ?_
              refine cm_v (pc := 95) hw91 (rn_M (As := [.int 4, .int 0]) (rest := []) E hw91 (s_emits2 l D cI cJ _ M mr (upd (upd (upd (upd (upd (upd (upd mi 22 nspot_82) 23 nfrom_83) 24 ntoken_84) 25 nvalue_85) 34 ncodes_88) 38 nreadFault_89) 39 nreadPlace_90) (va_up (va_up mf 31 gop_86) 32 garg_87) mg 4 0 (by show 0 ≤ ncodes_88.toInt ∧ ncodes_88.toInt ≤ 399; omega)) (gdV q_1786 q_1788 q_82 q_162 q_1789) hdV_X12_emits ⟨rfl, rfl⟩ ⟨(Nat.le_of_ble_eq_true rfl), (Nat.le_of_ble_eq_true rfl)⟩ ⟨(Nat.le_of_ble_eq_true rfl), (Nat.le_of_ble_eq_true rfl)⟩ 12 rfl rfl rfl rfl hl61.1 rfl (Nat.le_of_ble_eq_true rfl) dX12_readProduct_95) (fun u_109 H1 locs hp hw111 => ?_)
              obtain ⟨gop_112, garg_113, ncodes_114⟩ := u_109
              generalize H1 = H at hw111 ⊢
              have hw115 : WD D A s.heap (MW cI cJ M mr (upd (upd (upd (upd (upd (upd (upd mi 22 nspot_82) 23 nfrom_83) 24 ntoken_84) 25 nvalue_85) 34 ncodes_114) 38 nreadFault_89) 39 nreadPlace_90) (va_up (va_up mf 31 gop_112) 32 garg_113) mg) H locs := hw111
              obtain ⟨hp_116, hp_117⟩ := hp
              have hp_116 : ncodes_114.toInt = ncodes_88.toInt + 1 := hp_116
              have hp_117 : EM gop_86 garg_87 gop_112 garg_113 (800 + (ncodes_88.toInt).toNat) (4 : Int32) (0 : Int32) := hp_117
              refine lv_goto (pc := 98) (tgt := 10) E.1 E.2.1 dX12_readProduct_98 (by decide) ?_
              exact ih_43 nspot_82 nfrom_83 ntoken_84 nvalue_85 ncodes_114 nreadFault_89 nreadPlace_90 gop_112 garg_113 _ _ _ ⟨(by show 0 ≤ nfrom_83.toInt; omega), (by show nfrom_83.toInt ≤ nspot_82.toInt; omega), (by show nspot_82.toInt ≤ (mi 21).toInt; omega), (by show 0 ≤ ntoken_84.toInt; omega), (by show ntoken_84.toInt ≤ 4; omega), (by show ntoken_84.toInt ≤ 4 * nspot_82.toInt - 4 * nfrom_83.toInt; omega), (by show 0 ≤ ncodes_114.toInt; omega), (by show ncodes_114.toInt ≤ nfrom_83.toInt; omega), (by show (mi 23).toInt - (mi 34).toInt ≤ nfrom_83.toInt - ncodes_114.toInt; omega), (by show (mi 23).toInt + 1 ≤ nfrom_83.toInt; omega), (TX_two hi_42_10 hp_100 hp_117 ⟨by decide +kernel, by decide +kernel, by decide +kernel, fun h => absurd h (by decide +kernel)⟩ (by omega))⟩ (by omega) hw115 (lv_sub hl61 [1] rfl)
          · skip
            refine lv_istore_n (pc := 34) (lv' := [(1, .int 0), (0, .ref M)]) E.1 E.2.1 dX12_readProduct_34 rfl hl45 (by decide) rfl (fun ls hl118 => ?_)
            refine lv_aload_n (pc := 35) E.1 E.2.1 dX12_readProduct_35 rfl (lv_at hl118 1 rfl) ?_
            refine cm_v (pc := 36) hw57 (rn_M (As := []) (rest := []) E hw57 (s_reads l D cI cJ _ M mr (upd (upd (upd (upd (upd (upd (upd mi 22 x_34) 23 x_35) 24 x_36) 25 x_37) 34 x_38) 38 x_39) 39 x_40) (va_up (va_up mf 31 g_41) 32 g_42) mg (by show 0 ≤ x_34.toInt; omega) (by show x_34.toInt ≤ (mi 21).toInt; omega) (by show (mi 21).toInt ≤ 400; omega) (by show ((mf 26) 153).toInt = 32; omega)) (gdV q_1666 q_1668 q_52 q_162 q_1669) hdV_X12_reads ⟨rfl, rfl⟩ ⟨(Nat.le_of_ble_eq_true rfl), (Nat.le_of_ble_eq_true rfl)⟩ ⟨(Nat.le_of_ble_eq_true rfl), (Nat.le_of_ble_eq_true rfl)⟩ 12 rfl rfl rfl rfl hl118.1 rfl (Nat.le_of_ble_eq_true rfl) dX12_readProduct_36) (fun u_119 H1 locs hp hw121 => ?_)
            obtain ⟨nspot_122, nfrom_123, ntoken_124, nvalue_125⟩ := u_119
            generalize H1 = H at hw121 ⊢
            have hw126 : WD D A s.heap (MW cI cJ M mr (upd (upd (upd (upd (upd (upd (upd mi 22 nspot_122) 23 nfrom_123) 24 ntoken_124) 25 nvalue_125) 34 x_38) 38 x_39) 39 x_40) (va_up (va_up mf 31 g_41) 32 g_42) mg) H locs := hw121
            obtain ⟨hp_127, hp_128, hp_129, hp_130, hp_131, hp_132, hp_133⟩ := hp
            have hp_127 : 0 ≤ nfrom_123.toInt := hp_127
            have hp_128 : nfrom_123.toInt ≤ nspot_122.toInt := hp_128
            have hp_129 : nspot_122.toInt ≤ (mi 21).toInt := hp_129
            have hp_130 : 0 ≤ ntoken_124.toInt := hp_130
            have hp_131 : ntoken_124.toInt ≤ 4 := hp_131
            have hp_132 : ntoken_124.toInt ≤ 4 * nspot_122.toInt - 4 * nfrom_123.toInt := hp_132
            have hp_133 : x_34.toInt ≤ nfrom_123.toInt := hp_133
            refine lv_iload_n (pc := 39) E.1 E.2.1 dX12_readProduct_39 rfl (lv_at hl118 0 rfl) ?_
            refine lv_if_ne (pc := 40) (tgt := 57) E.1 E.2.1 dX12_readProduct_40 (by decide) (fun c_134 => absurd (meqE (a := 0) (b := 0) (by decide +kernel) (by decide +kernel) (by omega)) c_134) (fun _ => ?_)
            refine lv_aload_n (pc := 43) E.1 E.2.1 dX12_readProduct_43 rfl (lv_at hl118 1 rfl) ?_
            refine x_get (pc := 44) (T := TX12) (N := 70) (ci := 12) (v := .int ntoken_124) E hw126 inX12 0 24 q_1423 rfl rfl (by decide) rfl rfl dX12_readProduct_44 ?_
            refine lv_iconst (pc := 47) (v := 3) E.1 E.2.1 dX12_readProduct_47 (by decide +kernel) ?_
            refine lv_icmp_eq (pc := 48) (tgt := 57) E.1 E.2.1 dX12_readProduct_48 (by decide) (fun c_135 => ?_) (fun c_135 => ?_)
            · skip
              have hc_135 := eqE (a := ntoken_124.toInt) (b := 3) rfl (by decide +kernel) c_135
              refine lv_iload_n (pc := 57) E.1 E.2.1 dX12_readProduct_57 rfl (lv_at hl118 0 rfl) ?_
              refine lv_if_ne (pc := 58) (tgt := 74) E.1 E.2.1 dX12_readProduct_58 (by decide) (fun c_136 => absurd (meqE (a := 0) (b := 0) (by decide +kernel) (by decide +kernel) (by omega)) c_136) (fun _ => ?_)
              refine lv_aload_n (pc := 61) E.1 E.2.1 dX12_readProduct_61 rfl (lv_at hl118 1 rfl) ?_
              refine x_get (pc := 62) (T := TX12) (N := 70) (ci := 12) (v := .int nvalue_125) E hw126 inX12 0 25 q_1424 rfl rfl (by decide) rfl rfl dX12_readProduct_62 ?_
              refine lv_if_ne (pc := 65) (tgt := 74) E.1 E.2.1 dX12_readProduct_65 (by decide) (fun c_137 => ?_) (fun c_137 => ?_)
              · skip
                have hc_137 := neE (a := nvalue_125.toInt) (b := 0) rfl (by decide +kernel) c_137
                refine lv_aload_n (pc := 74) E.1 E.2.1 dX12_readProduct_74 rfl (lv_at hl118 1 rfl) ?_
                refine cm_i (pc := 75) hw126 (rn_M (As := []) (rest := []) E hw126 (s_readUnit l D cI cJ _ M mr (upd (upd (upd (upd (upd (upd (upd mi 22 nspot_122) 23 nfrom_123) 24 ntoken_124) 25 nvalue_125) 34 x_38) 38 x_39) 39 x_40) (va_up (va_up mf 31 g_41) 32 g_42) mg (by show 0 ≤ nfrom_123.toInt; omega) (by show nfrom_123.toInt ≤ nspot_122.toInt; omega) (by show nspot_122.toInt ≤ (mi 21).toInt; omega) (by show (mi 21).toInt ≤ 400; omega) (by show 0 ≤ ntoken_124.toInt; omega) (by show ntoken_124.toInt ≤ 4; omega) (by show ntoken_124.toInt ≤ 4 * nspot_122.toInt - 4 * nfrom_123.toInt; omega) (by show ((mf 26) 153).toInt = 32; omega) (by show 0 ≤ x_38.toInt; omega) (by show x_38.toInt ≤ nfrom_123.toInt; omega)) (gdV q_1778 q_1780 q_80 q_162 q_1781) hdV_X12_readUnit ⟨rfl, rfl⟩ ⟨(Nat.le_of_ble_eq_true rfl), (Nat.le_of_ble_eq_true rfl)⟩ ⟨(Nat.le_of_ble_eq_true rfl), (Nat.le_of_ble_eq_true rfl)⟩ 12 rfl rfl rfl rfl hl118.1 rfl (Nat.le_of_ble_eq_true rfl) dX12_readProduct_75) (fun r_139 u_138 H1 locs hp hw140 => ?_)
                obtain ⟨nspot_141, nfrom_142, ntoken_143, nvalue_144, gop_145, garg_146, ncodes_147, nreadFault_148, nreadPlace_149⟩ := u_138
                generalize H1 = H at hw140 ⊢
                have hw150 : WD D A s.heap (MW cI cJ M mr (upd (upd (upd (upd (upd (upd (upd mi 22 nspot_141) 23 nfrom_142) 24 ntoken_143) 25 nvalue_144) 34 ncodes_147) 38 nreadFault_148) 39 nreadPlace_149) (va_up (va_up mf 31 gop_145) 32 garg_146) mg) H locs := hw140
                obtain ⟨hp_151, hp_152, hp_153, hp_154, hp_155, hp_156, hp_157, hp_158, hp_159, hp_160, hp_161⟩ := hp
                have hp_151 : 0 ≤ nfrom_142.toInt := hp_151
                have hp_152 : nfrom_142.toInt ≤ nspot_141.toInt := hp_152
                have hp_153 : nspot_141.toInt ≤ (mi 21).toInt := hp_153
                have hp_154 : 0 ≤ ntoken_143.toInt := hp_154
                have hp_155 : ntoken_143.toInt ≤ 4 := hp_155
                have hp_156 : ntoken_143.toInt ≤ 4 * nspot_141.toInt - 4 * nfrom_142.toInt := hp_156
                have hp_157 : 0 ≤ ncodes_147.toInt := hp_157
                have hp_158 : ncodes_147.toInt ≤ nfrom_142.toInt := hp_158
                have hp_159 : r_139 = 0 → TX g_41 g_42 (800 + (x_38.toInt).toNat) gop_145 garg_146 (800 + (ncodes_147.toInt).toNat) := hp_159
                have hp_160 : r_139 = 0 → (ntoken_124.toInt = 3 → gop_145 (800 + (x_38.toInt).toNat) = 0 ∧ (garg_146 (800 + (x_38.toInt).toNat)).toInt = nvalue_125.toInt) := hp_160
                rcases hp_161 with rfl | ⟨rfl, ha_162, ha_163, ha_164⟩
                · skip
                  refine lv_iconst (pc := 78) (v := (-1)) E.1 E.2.1 dX12_readProduct_78 (by decide +kernel) ?_
                  refine lv_icmp_ne (pc := 79) (tgt := 84) E.1 E.2.1 dX12_readProduct_79 (by decide) (fun c_165 => absurd (meqE (a := (-1)) (b := (-1)) (by decide +kernel) (by decide +kernel) (by omega)) c_165) (fun _ => ?_)
                  refine lv_iconst (pc := 82) (v := (-1)) E.1 E.2.1 dX12_readProduct_82 (by decide +kernel) ?_
                  exact em_i (w1 := (fun (u : Int32 × Int32 × Int32 × Int32 × (Nat → Int32) × (Nat → Int32) × Int32 × Int32 × Int32) => (MW cI cJ M mr (upd (upd (upd (upd (upd (upd (upd mi 22 u.1) 23 u.2.1) 24 u.2.2.1) 25 u.2.2.2.1) 34 u.2.2.2.2.2.2.1) 38 u.2.2.2.2.2.2.2.1) 39 u.2.2.2.2.2.2.2.2) (va_up (va_up mf 31 u.2.2.2.2.1) 32 u.2.2.2.2.2.1) mg))) E hr hlk (nspot_141, nfrom_142, ntoken_143, nvalue_144, gop_145, garg_146, ncodes_147, nreadFault_148, nreadPlace_149) hw150 ⟨(by show 0 ≤ nfrom_142.toInt; have k_0 : ((-1) : Int32).toInt = -1 := (by decide +kernel); omega), (by show nfrom_142.toInt ≤ nspot_141.toInt; have k_0 : ((-1) : Int32).toInt = -1 := (by decide +kernel); omega), (by show nspot_141.toInt ≤ (mi 21).toInt; have k_0 : ((-1) : Int32).toInt = -1 := (by decide +kernel); omega), (by show 0 ≤ ntoken_143.toInt; have k_0 : ((-1) : Int32).toInt = -1 := (by decide +kernel); omega), (by show ntoken_143.toInt ≤ 4; have k_0 : ((-1) : Int32).toInt = -1 := (by decide +kernel); omega), (by show ntoken_143.toInt ≤ 4 * nspot_141.toInt - 4 * nfrom_142.toInt; have k_0 : ((-1) : Int32).toInt = -1 := (by decide +kernel); omega), (by show 0 ≤ ncodes_147.toInt; have k_0 : ((-1) : Int32).toInt = -1 := (by decide +kernel); omega), (by show ncodes_147.toInt ≤ nfrom_142.toInt; have k_0 : ((-1) : Int32).toInt = -1 := (by decide +kernel); omega), (fun h => absurd h (by decide +kernel)), (Or.inl rfl)⟩ (Nat.le_of_ble_eq_true rfl) (Nat.le_of_ble_eq_true rfl) dX12_readProduct_83
                · skip
                  have hp_159 := hp_159 rfl
                  have hp_160 := hp_160 rfl
                  have ha_162 : nfrom_123.toInt - x_38.toInt ≤ nfrom_142.toInt - ncodes_147.toInt := ha_162
                  have ha_163 : nfrom_123.toInt + 1 ≤ nfrom_142.toInt := ha_163
                  have ha_164 : ncodes_147.toInt = x_38.toInt + 1 := ha_164
                  refine lv_iconst (pc := 78) (v := (-1)) E.1 E.2.1 dX12_readProduct_78 (by decide +kernel) ?_
                  refine lv_icmp_ne (pc := 79) (tgt := 84) E.1 E.2.1 dX12_readProduct_79 (by decide) (fun _ => ?_) (fun c_166 => absurd c_166 (mneE (a := 0) (b := (-1)) (by decide +kernel) (by decide +kernel) (by omega)))
                  refine lv_aload_n (pc := 84) E.1 E.2.1 dX12_readProduct_84 rfl (lv_at hl118 1 rfl) ?_
                  refine lv_iload_n (pc := 85) E.1 E.2.1 dX12_readProduct_85 rfl (lv_at hl118 0 rfl) ?_
                  refine lv_if_eq (pc := 86) (tgt := 93) E.1 E.2.1 dX12_readProduct_86 (by decide) (fun _ => ?_) (fun c_167 => absurd (meqE (a := 0) (b := 0) (by decide +kernel) (by decide +kernel) (by omega)) c_167)
                  refine lv_iconst (pc := 93) (v := 5) E.1 E.2.1 dX12_readProduct_93 (by decide +kernel) ?_
                  refine lv_iconst (pc := 94) (v := 0) E.1 E.2.1 dX12_readProduct_94 (by decide +kernel) ?_
                  refine cm_v (pc := 95) hw150 (rn_M (As := [.int 5, .int 0]) (rest := []) E hw150 (s_emits2 l D cI cJ _ M mr (upd (upd (upd (upd (upd (upd (upd mi 22 nspot_141) 23 nfrom_142) 24 ntoken_143) 25 nvalue_144) 34 ncodes_147) 38 nreadFault_148) 39 nreadPlace_149) (va_up (va_up mf 31 gop_145) 32 garg_146) mg 5 0 (by show 0 ≤ ncodes_147.toInt ∧ ncodes_147.toInt ≤ 399; omega)) (gdV q_1786 q_1788 q_82 q_162 q_1789) hdV_X12_emits ⟨rfl, rfl⟩ ⟨(Nat.le_of_ble_eq_true rfl), (Nat.le_of_ble_eq_true rfl)⟩ ⟨(Nat.le_of_ble_eq_true rfl), (Nat.le_of_ble_eq_true rfl)⟩ 12 rfl rfl rfl rfl hl118.1 rfl (Nat.le_of_ble_eq_true rfl) dX12_readProduct_95) (fun u_168 H1 locs hp hw170 => ?_)
                  obtain ⟨gop_171, garg_172, ncodes_173⟩ := u_168
                  generalize H1 = H at hw170 ⊢
                  have hw174 : WD D A s.heap (MW cI cJ M mr (upd (upd (upd (upd (upd (upd (upd mi 22 nspot_141) 23 nfrom_142) 24 ntoken_143) 25 nvalue_144) 34 ncodes_173) 38 nreadFault_148) 39 nreadPlace_149) (va_up (va_up mf 31 gop_171) 32 garg_172) mg) H locs := hw170
                  obtain ⟨hp_175, hp_176⟩ := hp
                  have hp_175 : ncodes_173.toInt = ncodes_147.toInt + 1 := hp_175
                  have hp_176 : EM gop_145 garg_146 gop_171 garg_172 (800 + (ncodes_147.toInt).toNat) (5 : Int32) (0 : Int32) := hp_176
                  refine lv_goto (pc := 98) (tgt := 10) E.1 E.2.1 dX12_readProduct_98 (by decide) ?_
                  exact ih_43 nspot_141 nfrom_142 ntoken_143 nvalue_144 ncodes_173 nreadFault_148 nreadPlace_149 gop_171 garg_172 _ _ _ ⟨(by show 0 ≤ nfrom_142.toInt; omega), (by show nfrom_142.toInt ≤ nspot_141.toInt; omega), (by show nspot_141.toInt ≤ (mi 21).toInt; omega), (by show 0 ≤ ntoken_143.toInt; omega), (by show ntoken_143.toInt ≤ 4; omega), (by show ntoken_143.toInt ≤ 4 * nspot_141.toInt - 4 * nfrom_142.toInt; omega), (by show 0 ≤ ncodes_173.toInt; omega), (by show ncodes_173.toInt ≤ nfrom_142.toInt; omega), (by show (mi 23).toInt - (mi 34).toInt ≤ nfrom_142.toInt - ncodes_173.toInt; omega), (by show (mi 23).toInt + 1 ≤ nfrom_142.toInt; omega), (TX_two hi_42_10 hp_159 hp_176 ⟨by decide +kernel, by decide +kernel, by decide +kernel, fun _ => ⟨by omega, by rw [show 800 + (ncodes_147.toInt).toNat - 1 = 800 + (x_38.toInt).toNat from by omega]; exact (hp_160 (by omega)).1, by rw [show 800 + (ncodes_147.toInt).toNat - 1 = 800 + (x_38.toInt).toNat from by omega]; have q := (hp_160 (by omega)).2; exact mneE q (show (0 : Int32).toInt = 0 from by decide +kernel) (by omega)⟩⟩ (by omega))⟩ (by omega) hw174 (lv_sub hl118 [1] rfl)
              · skip
                have hc_137 := eqE (a := nvalue_125.toInt) (b := 0) rfl (by decide +kernel) c_137
                refine lv_aload_n (pc := 68) E.1 E.2.1 dX12_readProduct_68 rfl (lv_at hl118 1 rfl) ?_
                refine lv_iconst (pc := 69) (v := 2) E.1 E.2.1 dX12_readProduct_69 (by decide +kernel) ?_
                refine cm_i (pc := 70) hw126 (rn_M (As := [.int 2]) (rest := []) E hw126 (s_errs2 l D cI cJ _ M mr (upd (upd (upd (upd (upd (upd (upd mi 22 nspot_122) 23 nfrom_123) 24 ntoken_124) 25 nvalue_125) 34 x_38) 38 x_39) 39 x_40) (va_up (va_up mf 31 g_41) 32 g_42) mg 2) (gdV q_1698 q_1700 q_60 q_162 q_1701) hdV_X12_errs ⟨rfl, rfl⟩ ⟨(Nat.le_of_ble_eq_true rfl), (Nat.le_of_ble_eq_true rfl)⟩ ⟨(Nat.le_of_ble_eq_true rfl), (Nat.le_of_ble_eq_true rfl)⟩ 12 rfl rfl rfl rfl hl118.1 rfl (Nat.le_of_ble_eq_true rfl) dX12_readProduct_70) (fun r_178 u_177 H1 locs hp hw179 => ?_)
                obtain ⟨nreadFault_180, nreadPlace_181⟩ := u_177
                generalize H1 = H at hw179 ⊢
                have hw182 : WD D A s.heap (MW cI cJ M mr (upd (upd (upd (upd (upd (upd (upd mi 22 nspot_122) 23 nfrom_123) 24 ntoken_124) 25 nvalue_125) 34 x_38) 38 nreadFault_180) 39 nreadPlace_181) (va_up (va_up mf 31 g_41) 32 g_42) mg) H locs := hw179
                have hp_183 := hp
                rcases hp_183 with rfl
                · skip
                  exact em_i (w1 := (fun (u : Int32 × Int32 × Int32 × Int32 × (Nat → Int32) × (Nat → Int32) × Int32 × Int32 × Int32) => (MW cI cJ M mr (upd (upd (upd (upd (upd (upd (upd mi 22 u.1) 23 u.2.1) 24 u.2.2.1) 25 u.2.2.2.1) 34 u.2.2.2.2.2.2.1) 38 u.2.2.2.2.2.2.2.1) 39 u.2.2.2.2.2.2.2.2) (va_up (va_up mf 31 u.2.2.2.2.1) 32 u.2.2.2.2.2.1) mg))) E hr hlk (nspot_122, nfrom_123, ntoken_124, nvalue_125, g_41, g_42, x_38, nreadFault_180, nreadPlace_181) hw182 ⟨(by show 0 ≤ nfrom_123.toInt; have k_0 : ((-1) : Int32).toInt = -1 := (by decide +kernel); omega), (by show nfrom_123.toInt ≤ nspot_122.toInt; have k_0 : ((-1) : Int32).toInt = -1 := (by decide +kernel); omega), (by show nspot_122.toInt ≤ (mi 21).toInt; have k_0 : ((-1) : Int32).toInt = -1 := (by decide +kernel); omega), (by show 0 ≤ ntoken_124.toInt; have k_0 : ((-1) : Int32).toInt = -1 := (by decide +kernel); omega), (by show ntoken_124.toInt ≤ 4; have k_0 : ((-1) : Int32).toInt = -1 := (by decide +kernel); omega), (by show ntoken_124.toInt ≤ 4 * nspot_122.toInt - 4 * nfrom_123.toInt; have k_0 : ((-1) : Int32).toInt = -1 := (by decide +kernel); omega), (by show 0 ≤ x_38.toInt; have k_0 : ((-1) : Int32).toInt = -1 := (by decide +kernel); omega), (by show x_38.toInt ≤ nfrom_123.toInt; have k_0 : ((-1) : Int32).toInt = -1 := (by decide +kernel); omega), (fun h => absurd h (by decide +kernel)), (Or.inl rfl)⟩ (Nat.le_of_ble_eq_true rfl) (Nat.le_of_ble_eq_true rfl) dX12_readProduct_73
            · skip
              have hc_135 := neE (a := ntoken_124.toInt) (b := 3) rfl (by decide +kernel) c_135
              refine lv_aload_n (pc := 51) E.1 E.2.1 dX12_readProduct_51 rfl (lv_at hl118 1 rfl) ?_
              refine lv_iconst (pc := 52) (v := 1) E.1 E.2.1 dX12_readProduct_52 (by decide +kernel) ?_
              refine cm_i (pc := 53) hw126 (rn_M (As := [.int 1]) (rest := []) E hw126 (s_errs2 l D cI cJ _ M mr (upd (upd (upd (upd (upd (upd (upd mi 22 nspot_122) 23 nfrom_123) 24 ntoken_124) 25 nvalue_125) 34 x_38) 38 x_39) 39 x_40) (va_up (va_up mf 31 g_41) 32 g_42) mg 1) (gdV q_1698 q_1700 q_60 q_162 q_1701) hdV_X12_errs ⟨rfl, rfl⟩ ⟨(Nat.le_of_ble_eq_true rfl), (Nat.le_of_ble_eq_true rfl)⟩ ⟨(Nat.le_of_ble_eq_true rfl), (Nat.le_of_ble_eq_true rfl)⟩ 12 rfl rfl rfl rfl hl118.1 rfl (Nat.le_of_ble_eq_true rfl) dX12_readProduct_53) (fun r_185 u_184 H1 locs hp hw186 => ?_)
              obtain ⟨nreadFault_187, nreadPlace_188⟩ := u_184
              generalize H1 = H at hw186 ⊢
              have hw189 : WD D A s.heap (MW cI cJ M mr (upd (upd (upd (upd (upd (upd (upd mi 22 nspot_122) 23 nfrom_123) 24 ntoken_124) 25 nvalue_125) 34 x_38) 38 nreadFault_187) 39 nreadPlace_188) (va_up (va_up mf 31 g_41) 32 g_42) mg) H locs := hw186
              have hp_190 := hp
              rcases hp_190 with rfl
              · skip
                exact em_i (w1 := (fun (u : Int32 × Int32 × Int32 × Int32 × (Nat → Int32) × (Nat → Int32) × Int32 × Int32 × Int32) => (MW cI cJ M mr (upd (upd (upd (upd (upd (upd (upd mi 22 u.1) 23 u.2.1) 24 u.2.2.1) 25 u.2.2.2.1) 34 u.2.2.2.2.2.2.1) 38 u.2.2.2.2.2.2.2.1) 39 u.2.2.2.2.2.2.2.2) (va_up (va_up mf 31 u.2.2.2.2.1) 32 u.2.2.2.2.2.1) mg))) E hr hlk (nspot_122, nfrom_123, ntoken_124, nvalue_125, g_41, g_42, x_38, nreadFault_187, nreadPlace_188) hw189 ⟨(by show 0 ≤ nfrom_123.toInt; have k_0 : ((-1) : Int32).toInt = -1 := (by decide +kernel); omega), (by show nfrom_123.toInt ≤ nspot_122.toInt; have k_0 : ((-1) : Int32).toInt = -1 := (by decide +kernel); omega), (by show nspot_122.toInt ≤ (mi 21).toInt; have k_0 : ((-1) : Int32).toInt = -1 := (by decide +kernel); omega), (by show 0 ≤ ntoken_124.toInt; have k_0 : ((-1) : Int32).toInt = -1 := (by decide +kernel); omega), (by show ntoken_124.toInt ≤ 4; have k_0 : ((-1) : Int32).toInt = -1 := (by decide +kernel); omega), (by show ntoken_124.toInt ≤ 4 * nspot_122.toInt - 4 * nfrom_123.toInt; have k_0 : ((-1) : Int32).toInt = -1 := (by decide +kernel); omega), (by show 0 ≤ x_38.toInt; have k_0 : ((-1) : Int32).toInt = -1 := (by decide +kernel); omega), (by show x_38.toInt ≤ nfrom_123.toInt; have k_0 : ((-1) : Int32).toInt = -1 := (by decide +kernel); omega), (fun h => absurd h (by decide +kernel)), (Or.inl rfl)⟩ (Nat.le_of_ble_eq_true rfl) (Nat.le_of_ble_eq_true rfl) dX12_readProduct_56
        · skip
          refine lv_if_ne (pc := 16) (tgt := 28) E.1 E.2.1 dX12_readProduct_16 (by decide) (fun c_191 => absurd (meqE (a := 0) (b := 0) (by decide +kernel) (by decide +kernel) (by omega)) c_191) (fun _ => ?_)
          refine lv_aload_n (pc := 19) E.1 E.2.1 dX12_readProduct_19 rfl (lv_at hl45 0 rfl) ?_
          refine lv_bipush (pc := 20) (v := 47) E.1 E.2.1 dX12_readProduct_20 (by decide +kernel) ?_
          refine cm_i (pc := 22) hw49 (rn_M (As := [.int 47]) (rest := []) E hw49 (s_isSign2 l D cI cJ _ M mr (upd (upd (upd (upd (upd (upd (upd mi 22 x_34) 23 x_35) 24 x_36) 25 x_37) 34 x_38) 38 x_39) 39 x_40) (va_up (va_up mf 31 g_41) 32 g_42) mg 47) (gdV q_1718 q_1720 q_65 q_162 q_1721) hdV_X12_isSign ⟨rfl, rfl⟩ ⟨(Nat.le_of_ble_eq_true rfl), (Nat.le_of_ble_eq_true rfl)⟩ ⟨(Nat.le_of_ble_eq_true rfl), (Nat.le_of_ble_eq_true rfl)⟩ 12 rfl rfl rfl rfl hl45.1 rfl (Nat.le_of_ble_eq_true rfl) dX12_readProduct_22) (fun r_193 u_192 H1 locs hp hw194 => ?_)
          generalize H1 = H at hw194 ⊢
          have hw195 : WD D A s.heap (MW cI cJ M mr (upd (upd (upd (upd (upd (upd (upd mi 22 x_34) 23 x_35) 24 x_36) 25 x_37) 34 x_38) 38 x_39) 39 x_40) (va_up (va_up mf 31 g_41) 32 g_42) mg) H locs := hw194
          have hp_196 := hp
          rcases hp_196 with ⟨rfl, ha_197, ha_198⟩ | rfl
          · skip
            have ha_197 : x_36.toInt = 4 := ha_197
            have ha_198 : x_37.toInt = (47 : Int32).toInt := ha_198
            rw [show (47 : Int32).toInt = 47 from by decide +kernel] at ha_198
            refine lv_if_eq (pc := 25) (tgt := 101) E.1 E.2.1 dX12_readProduct_25 (by decide) (fun c_199 => absurd c_199 (mneE (a := 1) (b := 0) (by decide +kernel) (by decide +kernel) (by omega))) (fun _ => ?_)
            refine lv_aload_n (pc := 28) E.1 E.2.1 dX12_readProduct_28 rfl (lv_at hl45 0 rfl) ?_
            refine lv_bipush (pc := 29) (v := 42) E.1 E.2.1 dX12_readProduct_29 (by decide +kernel) ?_
            refine cm_i (pc := 31) hw195 (rn_M (As := [.int 42]) (rest := []) E hw195 (s_isSign2 l D cI cJ _ M mr (upd (upd (upd (upd (upd (upd (upd mi 22 x_34) 23 x_35) 24 x_36) 25 x_37) 34 x_38) 38 x_39) 39 x_40) (va_up (va_up mf 31 g_41) 32 g_42) mg 42) (gdV q_1718 q_1720 q_65 q_162 q_1721) hdV_X12_isSign ⟨rfl, rfl⟩ ⟨(Nat.le_of_ble_eq_true rfl), (Nat.le_of_ble_eq_true rfl)⟩ ⟨(Nat.le_of_ble_eq_true rfl), (Nat.le_of_ble_eq_true rfl)⟩ 12 rfl rfl rfl rfl hl45.1 rfl (Nat.le_of_ble_eq_true rfl) dX12_readProduct_31) (fun r_201 u_200 H1 locs hp hw202 => ?_)
            generalize H1 = H at hw202 ⊢
            have hw203 : WD D A s.heap (MW cI cJ M mr (upd (upd (upd (upd (upd (upd (upd mi 22 x_34) 23 x_35) 24 x_36) 25 x_37) 34 x_38) 38 x_39) 39 x_40) (va_up (va_up mf 31 g_41) 32 g_42) mg) H locs := hw202
            have hp_204 := hp
            rcases hp_204 with ⟨rfl, ha_205, ha_206⟩ | rfl
            · skip
              have ha_205 : x_36.toInt = 4 := ha_205
              have ha_206 : x_37.toInt = (42 : Int32).toInt := ha_206
              rw [show (42 : Int32).toInt = 42 from by decide +kernel] at ha_206
              exfalso; omega
            · skip
              refine lv_istore_n (pc := 34) (lv' := [(1, .int 0), (0, .ref M)]) E.1 E.2.1 dX12_readProduct_34 rfl hl45 (by decide) rfl (fun ls hl207 => ?_)
              refine lv_aload_n (pc := 35) E.1 E.2.1 dX12_readProduct_35 rfl (lv_at hl207 1 rfl) ?_
              refine cm_v (pc := 36) hw203 (rn_M (As := []) (rest := []) E hw203 (s_reads l D cI cJ _ M mr (upd (upd (upd (upd (upd (upd (upd mi 22 x_34) 23 x_35) 24 x_36) 25 x_37) 34 x_38) 38 x_39) 39 x_40) (va_up (va_up mf 31 g_41) 32 g_42) mg (by show 0 ≤ x_34.toInt; omega) (by show x_34.toInt ≤ (mi 21).toInt; omega) (by show (mi 21).toInt ≤ 400; omega) (by show ((mf 26) 153).toInt = 32; omega)) (gdV q_1666 q_1668 q_52 q_162 q_1669) hdV_X12_reads ⟨rfl, rfl⟩ ⟨(Nat.le_of_ble_eq_true rfl), (Nat.le_of_ble_eq_true rfl)⟩ ⟨(Nat.le_of_ble_eq_true rfl), (Nat.le_of_ble_eq_true rfl)⟩ 12 rfl rfl rfl rfl hl207.1 rfl (Nat.le_of_ble_eq_true rfl) dX12_readProduct_36) (fun u_208 H1 locs hp hw210 => ?_)
              obtain ⟨nspot_211, nfrom_212, ntoken_213, nvalue_214⟩ := u_208
              generalize H1 = H at hw210 ⊢
              have hw215 : WD D A s.heap (MW cI cJ M mr (upd (upd (upd (upd (upd (upd (upd mi 22 nspot_211) 23 nfrom_212) 24 ntoken_213) 25 nvalue_214) 34 x_38) 38 x_39) 39 x_40) (va_up (va_up mf 31 g_41) 32 g_42) mg) H locs := hw210
              obtain ⟨hp_216, hp_217, hp_218, hp_219, hp_220, hp_221, hp_222⟩ := hp
              have hp_216 : 0 ≤ nfrom_212.toInt := hp_216
              have hp_217 : nfrom_212.toInt ≤ nspot_211.toInt := hp_217
              have hp_218 : nspot_211.toInt ≤ (mi 21).toInt := hp_218
              have hp_219 : 0 ≤ ntoken_213.toInt := hp_219
              have hp_220 : ntoken_213.toInt ≤ 4 := hp_220
              have hp_221 : ntoken_213.toInt ≤ 4 * nspot_211.toInt - 4 * nfrom_212.toInt := hp_221
              have hp_222 : x_34.toInt ≤ nfrom_212.toInt := hp_222
              refine lv_iload_n (pc := 39) E.1 E.2.1 dX12_readProduct_39 rfl (lv_at hl207 0 rfl) ?_
              refine lv_if_ne (pc := 40) (tgt := 57) E.1 E.2.1 dX12_readProduct_40 (by decide) (fun c_223 => absurd (meqE (a := 0) (b := 0) (by decide +kernel) (by decide +kernel) (by omega)) c_223) (fun _ => ?_)
              refine lv_aload_n (pc := 43) E.1 E.2.1 dX12_readProduct_43 rfl (lv_at hl207 1 rfl) ?_
              refine x_get (pc := 44) (T := TX12) (N := 70) (ci := 12) (v := .int ntoken_213) E hw215 inX12 0 24 q_1423 rfl rfl (by decide) rfl rfl dX12_readProduct_44 ?_
              refine lv_iconst (pc := 47) (v := 3) E.1 E.2.1 dX12_readProduct_47 (by decide +kernel) ?_
              refine lv_icmp_eq (pc := 48) (tgt := 57) E.1 E.2.1 dX12_readProduct_48 (by decide) (fun c_224 => ?_) (fun c_224 => ?_)
              · skip
                have hc_224 := eqE (a := ntoken_213.toInt) (b := 3) rfl (by decide +kernel) c_224
                refine lv_iload_n (pc := 57) E.1 E.2.1 dX12_readProduct_57 rfl (lv_at hl207 0 rfl) ?_
                refine lv_if_ne (pc := 58) (tgt := 74) E.1 E.2.1 dX12_readProduct_58 (by decide) (fun c_225 => absurd (meqE (a := 0) (b := 0) (by decide +kernel) (by decide +kernel) (by omega)) c_225) (fun _ => ?_)
                refine lv_aload_n (pc := 61) E.1 E.2.1 dX12_readProduct_61 rfl (lv_at hl207 1 rfl) ?_
                refine x_get (pc := 62) (T := TX12) (N := 70) (ci := 12) (v := .int nvalue_214) E hw215 inX12 0 25 q_1424 rfl rfl (by decide) rfl rfl dX12_readProduct_62 ?_
                refine lv_if_ne (pc := 65) (tgt := 74) E.1 E.2.1 dX12_readProduct_65 (by decide) (fun c_226 => ?_) (fun c_226 => ?_)
                · skip
                  have hc_226 := neE (a := nvalue_214.toInt) (b := 0) rfl (by decide +kernel) c_226
                  refine lv_aload_n (pc := 74) E.1 E.2.1 dX12_readProduct_74 rfl (lv_at hl207 1 rfl) ?_
                  refine cm_i (pc := 75) hw215 (rn_M (As := []) (rest := []) E hw215 (s_readUnit l D cI cJ _ M mr (upd (upd (upd (upd (upd (upd (upd mi 22 nspot_211) 23 nfrom_212) 24 ntoken_213) 25 nvalue_214) 34 x_38) 38 x_39) 39 x_40) (va_up (va_up mf 31 g_41) 32 g_42) mg (by show 0 ≤ nfrom_212.toInt; omega) (by show nfrom_212.toInt ≤ nspot_211.toInt; omega) (by show nspot_211.toInt ≤ (mi 21).toInt; omega) (by show (mi 21).toInt ≤ 400; omega) (by show 0 ≤ ntoken_213.toInt; omega) (by show ntoken_213.toInt ≤ 4; omega) (by show ntoken_213.toInt ≤ 4 * nspot_211.toInt - 4 * nfrom_212.toInt; omega) (by show ((mf 26) 153).toInt = 32; omega) (by show 0 ≤ x_38.toInt; omega) (by show x_38.toInt ≤ nfrom_212.toInt; omega)) (gdV q_1778 q_1780 q_80 q_162 q_1781) hdV_X12_readUnit ⟨rfl, rfl⟩ ⟨(Nat.le_of_ble_eq_true rfl), (Nat.le_of_ble_eq_true rfl)⟩ ⟨(Nat.le_of_ble_eq_true rfl), (Nat.le_of_ble_eq_true rfl)⟩ 12 rfl rfl rfl rfl hl207.1 rfl (Nat.le_of_ble_eq_true rfl) dX12_readProduct_75) (fun r_228 u_227 H1 locs hp hw229 => ?_)
                  obtain ⟨nspot_230, nfrom_231, ntoken_232, nvalue_233, gop_234, garg_235, ncodes_236, nreadFault_237, nreadPlace_238⟩ := u_227
                  generalize H1 = H at hw229 ⊢
                  have hw239 : WD D A s.heap (MW cI cJ M mr (upd (upd (upd (upd (upd (upd (upd mi 22 nspot_230) 23 nfrom_231) 24 ntoken_232) 25 nvalue_233) 34 ncodes_236) 38 nreadFault_237) 39 nreadPlace_238) (va_up (va_up mf 31 gop_234) 32 garg_235) mg) H locs := hw229
                  obtain ⟨hp_240, hp_241, hp_242, hp_243, hp_244, hp_245, hp_246, hp_247, hp_248, hp_249, hp_250⟩ := hp
                  have hp_240 : 0 ≤ nfrom_231.toInt := hp_240
                  have hp_241 : nfrom_231.toInt ≤ nspot_230.toInt := hp_241
                  have hp_242 : nspot_230.toInt ≤ (mi 21).toInt := hp_242
                  have hp_243 : 0 ≤ ntoken_232.toInt := hp_243
                  have hp_244 : ntoken_232.toInt ≤ 4 := hp_244
                  have hp_245 : ntoken_232.toInt ≤ 4 * nspot_230.toInt - 4 * nfrom_231.toInt := hp_245
                  have hp_246 : 0 ≤ ncodes_236.toInt := hp_246
                  have hp_247 : ncodes_236.toInt ≤ nfrom_231.toInt := hp_247
                  have hp_248 : r_228 = 0 → TX g_41 g_42 (800 + (x_38.toInt).toNat) gop_234 garg_235 (800 + (ncodes_236.toInt).toNat) := hp_248
                  have hp_249 : r_228 = 0 → (ntoken_213.toInt = 3 → gop_234 (800 + (x_38.toInt).toNat) = 0 ∧ (garg_235 (800 + (x_38.toInt).toNat)).toInt = nvalue_214.toInt) := hp_249
                  rcases hp_250 with rfl | ⟨rfl, ha_251, ha_252, ha_253⟩
                  · skip
                    refine lv_iconst (pc := 78) (v := (-1)) E.1 E.2.1 dX12_readProduct_78 (by decide +kernel) ?_
                    refine lv_icmp_ne (pc := 79) (tgt := 84) E.1 E.2.1 dX12_readProduct_79 (by decide) (fun c_254 => absurd (meqE (a := (-1)) (b := (-1)) (by decide +kernel) (by decide +kernel) (by omega)) c_254) (fun _ => ?_)
                    refine lv_iconst (pc := 82) (v := (-1)) E.1 E.2.1 dX12_readProduct_82 (by decide +kernel) ?_
                    exact em_i (w1 := (fun (u : Int32 × Int32 × Int32 × Int32 × (Nat → Int32) × (Nat → Int32) × Int32 × Int32 × Int32) => (MW cI cJ M mr (upd (upd (upd (upd (upd (upd (upd mi 22 u.1) 23 u.2.1) 24 u.2.2.1) 25 u.2.2.2.1) 34 u.2.2.2.2.2.2.1) 38 u.2.2.2.2.2.2.2.1) 39 u.2.2.2.2.2.2.2.2) (va_up (va_up mf 31 u.2.2.2.2.1) 32 u.2.2.2.2.2.1) mg))) E hr hlk (nspot_230, nfrom_231, ntoken_232, nvalue_233, gop_234, garg_235, ncodes_236, nreadFault_237, nreadPlace_238) hw239 ⟨(by show 0 ≤ nfrom_231.toInt; have k_0 : ((-1) : Int32).toInt = -1 := (by decide +kernel); omega), (by show nfrom_231.toInt ≤ nspot_230.toInt; have k_0 : ((-1) : Int32).toInt = -1 := (by decide +kernel); omega), (by show nspot_230.toInt ≤ (mi 21).toInt; have k_0 : ((-1) : Int32).toInt = -1 := (by decide +kernel); omega), (by show 0 ≤ ntoken_232.toInt; have k_0 : ((-1) : Int32).toInt = -1 := (by decide +kernel); omega), (by show ntoken_232.toInt ≤ 4; have k_0 : ((-1) : Int32).toInt = -1 := (by decide +kernel); omega), (by show ntoken_232.toInt ≤ 4 * nspot_230.toInt - 4 * nfrom_231.toInt; have k_0 : ((-1) : Int32).toInt = -1 := (by decide +kernel); omega), (by show 0 ≤ ncodes_236.toInt; have k_0 : ((-1) : Int32).toInt = -1 := (by decide +kernel); omega), (by show ncodes_236.toInt ≤ nfrom_231.toInt; have k_0 : ((-1) : Int32).toInt = -1 := (by decide +kernel); omega), (fun h => absurd h (by decide +kernel)), (Or.inl rfl)⟩ (Nat.le_of_ble_eq_true rfl) (Nat.le_of_ble_eq_true rfl) dX12_readProduct_83
                  · skip
                    have hp_248 := hp_248 rfl
                    have hp_249 := hp_249 rfl
                    have ha_251 : nfrom_212.toInt - x_38.toInt ≤ nfrom_231.toInt - ncodes_236.toInt := ha_251
                    have ha_252 : nfrom_212.toInt + 1 ≤ nfrom_231.toInt := ha_252
                    have ha_253 : ncodes_236.toInt = x_38.toInt + 1 := ha_253
                    refine lv_iconst (pc := 78) (v := (-1)) E.1 E.2.1 dX12_readProduct_78 (by decide +kernel) ?_
                    refine lv_icmp_ne (pc := 79) (tgt := 84) E.1 E.2.1 dX12_readProduct_79 (by decide) (fun _ => ?_) (fun c_255 => absurd c_255 (mneE (a := 0) (b := (-1)) (by decide +kernel) (by decide +kernel) (by omega)))
                    refine lv_aload_n (pc := 84) E.1 E.2.1 dX12_readProduct_84 rfl (lv_at hl207 1 rfl) ?_
                    refine lv_iload_n (pc := 85) E.1 E.2.1 dX12_readProduct_85 rfl (lv_at hl207 0 rfl) ?_
                    refine lv_if_eq (pc := 86) (tgt := 93) E.1 E.2.1 dX12_readProduct_86 (by decide) (fun _ => ?_) (fun c_256 => absurd (meqE (a := 0) (b := 0) (by decide +kernel) (by decide +kernel) (by omega)) c_256)
                    refine lv_iconst (pc := 93) (v := 5) E.1 E.2.1 dX12_readProduct_93 (by decide +kernel) ?_
                    refine lv_iconst (pc := 94) (v := 0) E.1 E.2.1 dX12_readProduct_94 (by decide +kernel) ?_
                    refine cm_v (pc := 95) hw239 (rn_M (As := [.int 5, .int 0]) (rest := []) E hw239 (s_emits2 l D cI cJ _ M mr (upd (upd (upd (upd (upd (upd (upd mi 22 nspot_230) 23 nfrom_231) 24 ntoken_232) 25 nvalue_233) 34 ncodes_236) 38 nreadFault_237) 39 nreadPlace_238) (va_up (va_up mf 31 gop_234) 32 garg_235) mg 5 0 (by show 0 ≤ ncodes_236.toInt ∧ ncodes_236.toInt ≤ 399; omega)) (gdV q_1786 q_1788 q_82 q_162 q_1789) hdV_X12_emits ⟨rfl, rfl⟩ ⟨(Nat.le_of_ble_eq_true rfl), (Nat.le_of_ble_eq_true rfl)⟩ ⟨(Nat.le_of_ble_eq_true rfl), (Nat.le_of_ble_eq_true rfl)⟩ 12 rfl rfl rfl rfl hl207.1 rfl (Nat.le_of_ble_eq_true rfl) dX12_readProduct_95) (fun u_257 H1 locs hp hw259 => ?_)
                    obtain ⟨gop_260, garg_261, ncodes_262⟩ := u_257
                    generalize H1 = H at hw259 ⊢
                    have hw263 : WD D A s.heap (MW cI cJ M mr (upd (upd (upd (upd (upd (upd (upd mi 22 nspot_230) 23 nfrom_231) 24 ntoken_232) 25 nvalue_233) 34 ncodes_262) 38 nreadFault_237) 39 nreadPlace_238) (va_up (va_up mf 31 gop_260) 32 garg_261) mg) H locs := hw259
                    obtain ⟨hp_264, hp_265⟩ := hp
                    have hp_264 : ncodes_262.toInt = ncodes_236.toInt + 1 := hp_264
                    have hp_265 : EM gop_234 garg_235 gop_260 garg_261 (800 + (ncodes_236.toInt).toNat) (5 : Int32) (0 : Int32) := hp_265
                    refine lv_goto (pc := 98) (tgt := 10) E.1 E.2.1 dX12_readProduct_98 (by decide) ?_
                    exact ih_43 nspot_230 nfrom_231 ntoken_232 nvalue_233 ncodes_262 nreadFault_237 nreadPlace_238 gop_260 garg_261 _ _ _ ⟨(by show 0 ≤ nfrom_231.toInt; omega), (by show nfrom_231.toInt ≤ nspot_230.toInt; omega), (by show nspot_230.toInt ≤ (mi 21).toInt; omega), (by show 0 ≤ ntoken_232.toInt; omega), (by show ntoken_232.toInt ≤ 4; omega), (by show ntoken_232.toInt ≤ 4 * nspot_230.toInt - 4 * nfrom_231.toInt; omega), (by show 0 ≤ ncodes_262.toInt; omega), (by show ncodes_262.toInt ≤ nfrom_231.toInt; omega), (by show (mi 23).toInt - (mi 34).toInt ≤ nfrom_231.toInt - ncodes_262.toInt; omega), (by show (mi 23).toInt + 1 ≤ nfrom_231.toInt; omega), (TX_two hi_42_10 hp_248 hp_265 ⟨by decide +kernel, by decide +kernel, by decide +kernel, fun _ => ⟨by omega, by rw [show 800 + (ncodes_236.toInt).toNat - 1 = 800 + (x_38.toInt).toNat from by omega]; exact (hp_249 (by omega)).1, by rw [show 800 + (ncodes_236.toInt).toNat - 1 = 800 + (x_38.toInt).toNat from by omega]; have q := (hp_249 (by omega)).2; exact mneE q (show (0 : Int32).toInt = 0 from by decide +kernel) (by omega)⟩⟩ (by omega))⟩ (by omega) hw263 (lv_sub hl207 [1] rfl)
                · skip
                  have hc_226 := eqE (a := nvalue_214.toInt) (b := 0) rfl (by decide +kernel) c_226
                  refine lv_aload_n (pc := 68) E.1 E.2.1 dX12_readProduct_68 rfl (lv_at hl207 1 rfl) ?_
                  refine lv_iconst (pc := 69) (v := 2) E.1 E.2.1 dX12_readProduct_69 (by decide +kernel) ?_
                  refine cm_i (pc := 70) hw215 (rn_M (As := [.int 2]) (rest := []) E hw215 (s_errs2 l D cI cJ _ M mr (upd (upd (upd (upd (upd (upd (upd mi 22 nspot_211) 23 nfrom_212) 24 ntoken_213) 25 nvalue_214) 34 x_38) 38 x_39) 39 x_40) (va_up (va_up mf 31 g_41) 32 g_42) mg 2) (gdV q_1698 q_1700 q_60 q_162 q_1701) hdV_X12_errs ⟨rfl, rfl⟩ ⟨(Nat.le_of_ble_eq_true rfl), (Nat.le_of_ble_eq_true rfl)⟩ ⟨(Nat.le_of_ble_eq_true rfl), (Nat.le_of_ble_eq_true rfl)⟩ 12 rfl rfl rfl rfl hl207.1 rfl (Nat.le_of_ble_eq_true rfl) dX12_readProduct_70) (fun r_267 u_266 H1 locs hp hw268 => ?_)
                  obtain ⟨nreadFault_269, nreadPlace_270⟩ := u_266
                  generalize H1 = H at hw268 ⊢
                  have hw271 : WD D A s.heap (MW cI cJ M mr (upd (upd (upd (upd (upd (upd (upd mi 22 nspot_211) 23 nfrom_212) 24 ntoken_213) 25 nvalue_214) 34 x_38) 38 nreadFault_269) 39 nreadPlace_270) (va_up (va_up mf 31 g_41) 32 g_42) mg) H locs := hw268
                  have hp_272 := hp
                  rcases hp_272 with rfl
                  · skip
                    exact em_i (w1 := (fun (u : Int32 × Int32 × Int32 × Int32 × (Nat → Int32) × (Nat → Int32) × Int32 × Int32 × Int32) => (MW cI cJ M mr (upd (upd (upd (upd (upd (upd (upd mi 22 u.1) 23 u.2.1) 24 u.2.2.1) 25 u.2.2.2.1) 34 u.2.2.2.2.2.2.1) 38 u.2.2.2.2.2.2.2.1) 39 u.2.2.2.2.2.2.2.2) (va_up (va_up mf 31 u.2.2.2.2.1) 32 u.2.2.2.2.2.1) mg))) E hr hlk (nspot_211, nfrom_212, ntoken_213, nvalue_214, g_41, g_42, x_38, nreadFault_269, nreadPlace_270) hw271 ⟨(by show 0 ≤ nfrom_212.toInt; have k_0 : ((-1) : Int32).toInt = -1 := (by decide +kernel); omega), (by show nfrom_212.toInt ≤ nspot_211.toInt; have k_0 : ((-1) : Int32).toInt = -1 := (by decide +kernel); omega), (by show nspot_211.toInt ≤ (mi 21).toInt; have k_0 : ((-1) : Int32).toInt = -1 := (by decide +kernel); omega), (by show 0 ≤ ntoken_213.toInt; have k_0 : ((-1) : Int32).toInt = -1 := (by decide +kernel); omega), (by show ntoken_213.toInt ≤ 4; have k_0 : ((-1) : Int32).toInt = -1 := (by decide +kernel); omega), (by show ntoken_213.toInt ≤ 4 * nspot_211.toInt - 4 * nfrom_212.toInt; have k_0 : ((-1) : Int32).toInt = -1 := (by decide +kernel); omega), (by show 0 ≤ x_38.toInt; have k_0 : ((-1) : Int32).toInt = -1 := (by decide +kernel); omega), (by show x_38.toInt ≤ nfrom_212.toInt; have k_0 : ((-1) : Int32).toInt = -1 := (by decide +kernel); omega), (fun h => absurd h (by decide +kernel)), (Or.inl rfl)⟩ (Nat.le_of_ble_eq_true rfl) (Nat.le_of_ble_eq_true rfl) dX12_readProduct_73
              · skip
                have hc_224 := neE (a := ntoken_213.toInt) (b := 3) rfl (by decide +kernel) c_224
                refine lv_aload_n (pc := 51) E.1 E.2.1 dX12_readProduct_51 rfl (lv_at hl207 1 rfl) ?_
                refine lv_iconst (pc := 52) (v := 1) E.1 E.2.1 dX12_readProduct_52 (by decide +kernel) ?_
                refine cm_i (pc := 53) hw215 (rn_M (As := [.int 1]) (rest := []) E hw215 (s_errs2 l D cI cJ _ M mr (upd (upd (upd (upd (upd (upd (upd mi 22 nspot_211) 23 nfrom_212) 24 ntoken_213) 25 nvalue_214) 34 x_38) 38 x_39) 39 x_40) (va_up (va_up mf 31 g_41) 32 g_42) mg 1) (gdV q_1698 q_1700 q_60 q_162 q_1701) hdV_X12_errs ⟨rfl, rfl⟩ ⟨(Nat.le_of_ble_eq_true rfl), (Nat.le_of_ble_eq_true rfl)⟩ ⟨(Nat.le_of_ble_eq_true rfl), (Nat.le_of_ble_eq_true rfl)⟩ 12 rfl rfl rfl rfl hl207.1 rfl (Nat.le_of_ble_eq_true rfl) dX12_readProduct_53) (fun r_274 u_273 H1 locs hp hw275 => ?_)
                obtain ⟨nreadFault_276, nreadPlace_277⟩ := u_273
                generalize H1 = H at hw275 ⊢
                have hw278 : WD D A s.heap (MW cI cJ M mr (upd (upd (upd (upd (upd (upd (upd mi 22 nspot_211) 23 nfrom_212) 24 ntoken_213) 25 nvalue_214) 34 x_38) 38 nreadFault_276) 39 nreadPlace_277) (va_up (va_up mf 31 g_41) 32 g_42) mg) H locs := hw275
                have hp_279 := hp
                rcases hp_279 with rfl
                · skip
                  exact em_i (w1 := (fun (u : Int32 × Int32 × Int32 × Int32 × (Nat → Int32) × (Nat → Int32) × Int32 × Int32 × Int32) => (MW cI cJ M mr (upd (upd (upd (upd (upd (upd (upd mi 22 u.1) 23 u.2.1) 24 u.2.2.1) 25 u.2.2.2.1) 34 u.2.2.2.2.2.2.1) 38 u.2.2.2.2.2.2.2.1) 39 u.2.2.2.2.2.2.2.2) (va_up (va_up mf 31 u.2.2.2.2.1) 32 u.2.2.2.2.2.1) mg))) E hr hlk (nspot_211, nfrom_212, ntoken_213, nvalue_214, g_41, g_42, x_38, nreadFault_276, nreadPlace_277) hw278 ⟨(by show 0 ≤ nfrom_212.toInt; have k_0 : ((-1) : Int32).toInt = -1 := (by decide +kernel); omega), (by show nfrom_212.toInt ≤ nspot_211.toInt; have k_0 : ((-1) : Int32).toInt = -1 := (by decide +kernel); omega), (by show nspot_211.toInt ≤ (mi 21).toInt; have k_0 : ((-1) : Int32).toInt = -1 := (by decide +kernel); omega), (by show 0 ≤ ntoken_213.toInt; have k_0 : ((-1) : Int32).toInt = -1 := (by decide +kernel); omega), (by show ntoken_213.toInt ≤ 4; have k_0 : ((-1) : Int32).toInt = -1 := (by decide +kernel); omega), (by show ntoken_213.toInt ≤ 4 * nspot_211.toInt - 4 * nfrom_212.toInt; have k_0 : ((-1) : Int32).toInt = -1 := (by decide +kernel); omega), (by show 0 ≤ x_38.toInt; have k_0 : ((-1) : Int32).toInt = -1 := (by decide +kernel); omega), (by show x_38.toInt ≤ nfrom_212.toInt; have k_0 : ((-1) : Int32).toInt = -1 := (by decide +kernel); omega), (fun h => absurd h (by decide +kernel)), (Or.inl rfl)⟩ (Nat.le_of_ble_eq_true rfl) (Nat.le_of_ble_eq_true rfl) dX12_readProduct_56
          · skip
            refine lv_if_eq (pc := 25) (tgt := 101) E.1 E.2.1 dX12_readProduct_25 (by decide) (fun _ => ?_) (fun c_280 => absurd (meqE (a := 0) (b := 0) (by decide +kernel) (by decide +kernel) (by omega)) c_280)
            refine lv_iconst (pc := 101) (v := 0) E.1 E.2.1 dX12_readProduct_101 (by decide +kernel) ?_
            exact em_i (w1 := (fun (u : Int32 × Int32 × Int32 × Int32 × (Nat → Int32) × (Nat → Int32) × Int32 × Int32 × Int32) => (MW cI cJ M mr (upd (upd (upd (upd (upd (upd (upd mi 22 u.1) 23 u.2.1) 24 u.2.2.1) 25 u.2.2.2.1) 34 u.2.2.2.2.2.2.1) 38 u.2.2.2.2.2.2.2.1) 39 u.2.2.2.2.2.2.2.2) (va_up (va_up mf 31 u.2.2.2.2.1) 32 u.2.2.2.2.2.1) mg))) E hr hlk (x_34, x_35, x_36, x_37, g_41, g_42, x_38, x_39, x_40) hw195 ⟨(by show 0 ≤ x_35.toInt; have k_0 : (0 : Int32).toInt = 0 := (by decide +kernel); omega), (by show x_35.toInt ≤ x_34.toInt; have k_0 : (0 : Int32).toInt = 0 := (by decide +kernel); omega), (by show x_34.toInt ≤ (mi 21).toInt; have k_0 : (0 : Int32).toInt = 0 := (by decide +kernel); omega), (by show 0 ≤ x_36.toInt; have k_0 : (0 : Int32).toInt = 0 := (by decide +kernel); omega), (by show x_36.toInt ≤ 4; have k_0 : (0 : Int32).toInt = 0 := (by decide +kernel); omega), (by show x_36.toInt ≤ 4 * x_34.toInt - 4 * x_35.toInt; have k_0 : (0 : Int32).toInt = 0 := (by decide +kernel); omega), (by show 0 ≤ x_38.toInt; have k_0 : (0 : Int32).toInt = 0 := (by decide +kernel); omega), (by show x_38.toInt ≤ x_35.toInt; have k_0 : (0 : Int32).toInt = 0 := (by decide +kernel); omega), (fun _ => (show TX (mf 31) (mf 32) (800 + ((mi 34).toInt).toNat) g_41 g_42 (800 + (x_38.toInt).toNat) from hi_42_10)), (Or.inr (⟨rfl, (by show (mi 23).toInt - (mi 34).toInt ≤ x_35.toInt - x_38.toInt; omega), (by show (mi 23).toInt + 1 ≤ x_35.toInt; omega)⟩))⟩ (Nat.le_of_ble_eq_true rfl) (Nat.le_of_ble_eq_true rfl) dX12_readProduct_102
    exact loop_33 (Int.toNat ((mi 21).toInt - nfrom_8.toInt) + 1) nspot_7 nfrom_8 ntoken_9 nvalue_10 ncodes_13 nreadFault_14 nreadPlace_15 gop_11 garg_12 _ _ _ ⟨(by show 0 ≤ nfrom_8.toInt; omega), (by show nfrom_8.toInt ≤ nspot_7.toInt; omega), (by show nspot_7.toInt ≤ (mi 21).toInt; omega), (by show 0 ≤ ntoken_9.toInt; omega), (by show ntoken_9.toInt ≤ 4; omega), (by show ntoken_9.toInt ≤ 4 * nspot_7.toInt - 4 * nfrom_8.toInt; omega), (by show 0 ≤ ncodes_13.toInt; omega), (by show ncodes_13.toInt ≤ nfrom_8.toInt; omega), (by show (mi 23).toInt - (mi 34).toInt ≤ nfrom_8.toInt - ncodes_13.toInt; omega), (by show (mi 23).toInt + 1 ≤ nfrom_8.toInt; omega), hp_25⟩ (by omega) hw16 (lv_sub hl3 [0] rfl)

set_option maxHeartbeats 4000000 in
set_option maxRecDepth 100000 in
theorem s_readSum (l : Launch) (D : va_G) (cI cJ : ClassId) (sz M : Nat) (mr : Nat → Nat) (mi : Nat → Int32) (mf : Nat → Nat → Int32) (mg : Nat → Nat → Int64)  (h0 : 0 ≤ (mi 23).toInt) (h1 : (mi 23).toInt ≤ (mi 22).toInt) (h2 : (mi 22).toInt ≤ (mi 21).toInt) (h3 : (mi 21).toInt ≤ 400) (h4 : 0 ≤ (mi 24).toInt) (h5 : (mi 24).toInt ≤ 4) (h6 : (mi 24).toInt ≤ 4 * (mi 22).toInt - 4 * (mi 23).toInt) (h7 : ((mf 26) 153).toInt = 32) (h8 : 0 ≤ (mi 34).toInt) (h9 : (mi 34).toInt ≤ (mi 23).toInt) : Met l yX12_readSum (Cond.code yX12_readSum cX12_readSum 2 (some .int) :: GW) ({ frames := 6, cells := 0, slots := 0, locals := 147 } : Room) (va_Pc [.ref M] (PW D cI cJ sz (MW cI cJ M mr mi mf mg) xT)) (va_Qi (fun (r : Int32) (u : Int32 × Int32 × Int32 × Int32 × (Nat → Int32) × (Nat → Int32) × Int32 × Int32 × Int32) => (0 ≤ u.2.1.toInt) ∧ (u.2.1.toInt ≤ u.1.toInt) ∧ (u.1.toInt ≤ (mi 21).toInt) ∧ (0 ≤ u.2.2.1.toInt) ∧ (u.2.2.1.toInt ≤ 4) ∧ (u.2.2.1.toInt ≤ 4 * u.1.toInt - 4 * u.2.1.toInt) ∧ (0 ≤ u.2.2.2.2.2.2.1.toInt) ∧ (u.2.2.2.2.2.2.1.toInt ≤ u.2.1.toInt) ∧ (r = 0 → TX (mf 31) (mf 32) (800 + ((mi 34).toInt).toNat) u.2.2.2.2.1 u.2.2.2.2.2.1 (800 + (u.2.2.2.2.2.2.1.toInt).toNat)) ∧ ((r = (-1)) ∨ (r = 0 ∧ (mi 23).toInt - (mi 34).toInt ≤ u.2.1.toInt - u.2.2.2.2.2.2.1.toInt ∧ (mi 23).toInt + 1 ≤ u.2.1.toInt))) (fun u => QW D cI cJ (va_A (MW cI cJ M mr mi mf mg) sz) ((fun (u : Int32 × Int32 × Int32 × Int32 × (Nat → Int32) × (Nat → Int32) × Int32 × Int32 × Int32) => (MW cI cJ M mr (upd (upd (upd (upd (upd (upd (upd mi 22 u.1) 23 u.2.1) 24 u.2.2.1) 25 u.2.2.2.1) 34 u.2.2.2.2.2.2.1) 38 u.2.2.2.2.2.2.2.1) 39 u.2.2.2.2.2.2.2.2) (va_up (va_up mf 31 u.2.2.2.2.1) 32 u.2.2.2.2.2.1) mg)) u)) (va_A (MW cI cJ M mr mi mf mg) sz)) 0 0 (va_A (MW cI cJ M mr mi mf mg) sz) := by
  refine mk_met (y := yX12_readSum) (bytes := cX12_readSum) (maxL := 2) (avs := [.ref M]) (WS := (MW cI cJ M mr mi mf mg)) (Qf := fun A => va_Qi (fun (r : Int32) (u : Int32 × Int32 × Int32 × Int32 × (Nat → Int32) × (Nat → Int32) × Int32 × Int32 × Int32) => (0 ≤ u.2.1.toInt) ∧ (u.2.1.toInt ≤ u.1.toInt) ∧ (u.1.toInt ≤ (mi 21).toInt) ∧ (0 ≤ u.2.2.1.toInt) ∧ (u.2.2.1.toInt ≤ 4) ∧ (u.2.2.1.toInt ≤ 4 * u.1.toInt - 4 * u.2.1.toInt) ∧ (0 ≤ u.2.2.2.2.2.2.1.toInt) ∧ (u.2.2.2.2.2.2.1.toInt ≤ u.2.1.toInt) ∧ (r = 0 → TX (mf 31) (mf 32) (800 + ((mi 34).toInt).toNat) u.2.2.2.2.1 u.2.2.2.2.2.1 (800 + (u.2.2.2.2.2.2.1.toInt).toNat)) ∧ ((r = (-1)) ∨ (r = 0 ∧ (mi 23).toInt - (mi 34).toInt ≤ u.2.1.toInt - u.2.2.2.2.2.2.1.toInt ∧ (mi 23).toInt + 1 ≤ u.2.1.toInt))) (fun u => QW D cI cJ A ((fun (u : Int32 × Int32 × Int32 × Int32 × (Nat → Int32) × (Nat → Int32) × Int32 × Int32 × Int32) => (MW cI cJ M mr (upd (upd (upd (upd (upd (upd (upd mi 22 u.1) 23 u.2.1) 24 u.2.2.1) 25 u.2.2.2.1) 34 u.2.2.2.2.2.2.1) 38 u.2.2.2.2.2.2.2.1) 39 u.2.2.2.2.2.2.2.2) (va_up (va_up mf 31 u.2.2.2.2.1) 32 u.2.2.2.2.2.1) mg)) u)) A) (by decide) (Nat.le_of_ble_eq_true rfl) ?_
  intro p e s m below meth c A ls E hr hlk hnm hX hw1 hl2
  have hl3 : lv_has ls 2 [(0, .ref M)] := hl2
  refine lv_aload_n (pc := 0) E.1 E.2.1 dX12_readSum_0 rfl (lv_at hl3 0 rfl) ?_
  refine cm_i (pc := 1) hw1 (rn_M (As := []) (rest := []) E hw1 (s_readProduct l D cI cJ _ M mr mi mf mg (by show 0 ≤ (mi 23).toInt; omega) (by show (mi 23).toInt ≤ (mi 22).toInt; omega) (by show (mi 22).toInt ≤ (mi 21).toInt; omega) (by show (mi 21).toInt ≤ 400; omega) (by show 0 ≤ (mi 24).toInt; omega) (by show (mi 24).toInt ≤ 4; omega) (by show (mi 24).toInt ≤ 4 * (mi 22).toInt - 4 * (mi 23).toInt; omega) (by show ((mf 26) 153).toInt = 32; omega) (by show 0 ≤ (mi 34).toInt; omega) (by show (mi 34).toInt ≤ (mi 23).toInt; omega)) (gdV q_1774 q_1776 q_79 q_162 q_1777) hdV_X12_readProduct ⟨rfl, rfl⟩ ⟨(Nat.le_of_ble_eq_true rfl), (Nat.le_of_ble_eq_true rfl)⟩ ⟨(Nat.le_of_ble_eq_true rfl), (Nat.le_of_ble_eq_true rfl)⟩ 12 rfl rfl rfl rfl hl3.1 rfl (Nat.le_of_ble_eq_true rfl) dX12_readSum_1) (fun r_5 u_4 H1 locs hp hw6 => ?_)
  obtain ⟨nspot_7, nfrom_8, ntoken_9, nvalue_10, gop_11, garg_12, ncodes_13, nreadFault_14, nreadPlace_15⟩ := u_4
  generalize H1 = H at hw6 ⊢
  have hw16 : WD D A s.heap (MW cI cJ M mr (upd (upd (upd (upd (upd (upd (upd mi 22 nspot_7) 23 nfrom_8) 24 ntoken_9) 25 nvalue_10) 34 ncodes_13) 38 nreadFault_14) 39 nreadPlace_15) (va_up (va_up mf 31 gop_11) 32 garg_12) mg) H locs := hw6
  obtain ⟨hp_17, hp_18, hp_19, hp_20, hp_21, hp_22, hp_23, hp_24, hp_25, hp_26⟩ := hp
  have hp_17 : 0 ≤ nfrom_8.toInt := hp_17
  have hp_18 : nfrom_8.toInt ≤ nspot_7.toInt := hp_18
  have hp_19 : nspot_7.toInt ≤ (mi 21).toInt := hp_19
  have hp_20 : 0 ≤ ntoken_9.toInt := hp_20
  have hp_21 : ntoken_9.toInt ≤ 4 := hp_21
  have hp_22 : ntoken_9.toInt ≤ 4 * nspot_7.toInt - 4 * nfrom_8.toInt := hp_22
  have hp_23 : 0 ≤ ncodes_13.toInt := hp_23
  have hp_24 : ncodes_13.toInt ≤ nfrom_8.toInt := hp_24
  have hp_25 : r_5 = 0 → TX (mf 31) (mf 32) (800 + ((mi 34).toInt).toNat) gop_11 garg_12 (800 + (ncodes_13.toInt).toNat) := hp_25
  rcases hp_26 with rfl | ⟨rfl, ha_27, ha_28⟩
  · skip
    refine lv_iconst (pc := 4) (v := (-1)) E.1 E.2.1 dX12_readSum_4 (by decide +kernel) ?_
    refine lv_icmp_ne (pc := 5) (tgt := 10) E.1 E.2.1 dX12_readSum_5 (by decide) (fun c_29 => absurd (meqE (a := (-1)) (b := (-1)) (by decide +kernel) (by decide +kernel) (by omega)) c_29) (fun _ => ?_)
    refine lv_iconst (pc := 8) (v := (-1)) E.1 E.2.1 dX12_readSum_8 (by decide +kernel) ?_
    exact em_i (w1 := (fun (u : Int32 × Int32 × Int32 × Int32 × (Nat → Int32) × (Nat → Int32) × Int32 × Int32 × Int32) => (MW cI cJ M mr (upd (upd (upd (upd (upd (upd (upd mi 22 u.1) 23 u.2.1) 24 u.2.2.1) 25 u.2.2.2.1) 34 u.2.2.2.2.2.2.1) 38 u.2.2.2.2.2.2.2.1) 39 u.2.2.2.2.2.2.2.2) (va_up (va_up mf 31 u.2.2.2.2.1) 32 u.2.2.2.2.2.1) mg))) E hr hlk (nspot_7, nfrom_8, ntoken_9, nvalue_10, gop_11, garg_12, ncodes_13, nreadFault_14, nreadPlace_15) hw16 ⟨(by show 0 ≤ nfrom_8.toInt; have k_0 : ((-1) : Int32).toInt = -1 := (by decide +kernel); omega), (by show nfrom_8.toInt ≤ nspot_7.toInt; have k_0 : ((-1) : Int32).toInt = -1 := (by decide +kernel); omega), (by show nspot_7.toInt ≤ (mi 21).toInt; have k_0 : ((-1) : Int32).toInt = -1 := (by decide +kernel); omega), (by show 0 ≤ ntoken_9.toInt; have k_0 : ((-1) : Int32).toInt = -1 := (by decide +kernel); omega), (by show ntoken_9.toInt ≤ 4; have k_0 : ((-1) : Int32).toInt = -1 := (by decide +kernel); omega), (by show ntoken_9.toInt ≤ 4 * nspot_7.toInt - 4 * nfrom_8.toInt; have k_0 : ((-1) : Int32).toInt = -1 := (by decide +kernel); omega), (by show 0 ≤ ncodes_13.toInt; have k_0 : ((-1) : Int32).toInt = -1 := (by decide +kernel); omega), (by show ncodes_13.toInt ≤ nfrom_8.toInt; have k_0 : ((-1) : Int32).toInt = -1 := (by decide +kernel); omega), (fun h => absurd h (by decide +kernel)), (Or.inl rfl)⟩ (Nat.le_of_ble_eq_true rfl) (Nat.le_of_ble_eq_true rfl) dX12_readSum_9
  · skip
    have hp_25 := hp_25 rfl
    have ha_27 : (mi 23).toInt - (mi 34).toInt ≤ nfrom_8.toInt - ncodes_13.toInt := ha_27
    have ha_28 : (mi 23).toInt + 1 ≤ nfrom_8.toInt := ha_28
    refine lv_iconst (pc := 4) (v := (-1)) E.1 E.2.1 dX12_readSum_4 (by decide +kernel) ?_
    refine lv_icmp_ne (pc := 5) (tgt := 10) E.1 E.2.1 dX12_readSum_5 (by decide) (fun _ => ?_) (fun c_30 => absurd c_30 (mneE (a := 0) (b := (-1)) (by decide +kernel) (by decide +kernel) (by omega)))
    have loop_31 : ∀ (k : Nat) (x_32 : Int32) (x_33 : Int32) (x_34 : Int32) (x_35 : Int32) (x_36 : Int32) (x_37 : Int32) (x_38 : Int32) (g_39 : Nat → Int32) (g_40 : Nat → Int32) (H : Heap) (locs : List Loc) (ls : Array Slot), (0 ≤ x_33.toInt) ∧ (x_33.toInt ≤ x_32.toInt) ∧ (x_32.toInt ≤ (mi 21).toInt) ∧ (0 ≤ x_34.toInt) ∧ (x_34.toInt ≤ 4) ∧ (x_34.toInt ≤ 4 * x_32.toInt - 4 * x_33.toInt) ∧ (0 ≤ x_36.toInt) ∧ (x_36.toInt ≤ x_33.toInt) ∧ ((mi 23).toInt - (mi 34).toInt ≤ x_33.toInt - x_36.toInt) ∧ ((mi 23).toInt + 1 ≤ x_33.toInt) ∧ (TX (mf 31) (mf 32) (800 + ((mi 34).toInt).toNat) g_39 g_40 (800 + (x_36.toInt).toNat)) → (mi 21).toInt - x_33.toInt < (k : Int) → WD D A s.heap (MW cI cJ M mr (upd (upd (upd (upd (upd (upd (upd mi 22 x_32) 23 x_33) 24 x_34) 25 x_35) 34 x_36) 38 x_37) 39 x_38) (va_up (va_up mf 31 g_39) 32 g_40) mg) H locs → lv_has ls 2 [(0, .ref M)] → W p l e ({ frames := 6, cells := 0, slots := 0, locals := 147 } : Room) s m ([.ref M] : List Value).toArray below meth c H locs 0 0 (MQ below (va_Qi (fun (r : Int32) (u : Int32 × Int32 × Int32 × Int32 × (Nat → Int32) × (Nat → Int32) × Int32 × Int32 × Int32) => (0 ≤ u.2.1.toInt) ∧ (u.2.1.toInt ≤ u.1.toInt) ∧ (u.1.toInt ≤ (mi 21).toInt) ∧ (0 ≤ u.2.2.1.toInt) ∧ (u.2.2.1.toInt ≤ 4) ∧ (u.2.2.1.toInt ≤ 4 * u.1.toInt - 4 * u.2.1.toInt) ∧ (0 ≤ u.2.2.2.2.2.2.1.toInt) ∧ (u.2.2.2.2.2.2.1.toInt ≤ u.2.1.toInt) ∧ (r = 0 → TX (mf 31) (mf 32) (800 + ((mi 34).toInt).toNat) u.2.2.2.2.1 u.2.2.2.2.2.1 (800 + (u.2.2.2.2.2.2.1.toInt).toNat)) ∧ ((r = (-1)) ∨ (r = 0 ∧ (mi 23).toInt - (mi 34).toInt ≤ u.2.1.toInt - u.2.2.2.2.2.2.1.toInt ∧ (mi 23).toInt + 1 ≤ u.2.1.toInt))) (fun u => QW D cI cJ A ((fun (u : Int32 × Int32 × Int32 × Int32 × (Nat → Int32) × (Nat → Int32) × Int32 × Int32 × Int32) => (MW cI cJ M mr (upd (upd (upd (upd (upd (upd (upd mi 22 u.1) 23 u.2.1) 24 u.2.2.1) 25 u.2.2.2.1) 34 u.2.2.2.2.2.2.1) 38 u.2.2.2.2.2.2.2.1) 39 u.2.2.2.2.2.2.2.2) (va_up (va_up mf 31 u.2.2.2.2.1) 32 u.2.2.2.2.2.1) mg)) u)) A) ([.ref M] : List Value).toArray s 0 0 A) (F0 m 10 ls []) := by
      intro k
      induction k with
      | zero =>
        intro x_32 x_33 x_34 x_35 x_36 x_37 x_38 g_39 g_40 _ _ _ hinv hm
        obtain ⟨hi_40_0, hi_40_1, hi_40_2, hi_40_3, hi_40_4, hi_40_5, hi_40_6, hi_40_7, hi_40_8, hi_40_9, hi_40_10⟩ := hinv
        exact absurd hm (by omega)
      | succ k ih_41 =>
        intro x_32 x_33 x_34 x_35 x_36 x_37 x_38 g_39 g_40 H locs ls hinv hm hw42 hl43
        obtain ⟨hi_40_0, hi_40_1, hi_40_2, hi_40_3, hi_40_4, hi_40_5, hi_40_6, hi_40_7, hi_40_8, hi_40_9, hi_40_10⟩ := hinv
        refine lv_aload_n (pc := 10) E.1 E.2.1 dX12_readSum_10 rfl (lv_at hl43 0 rfl) ?_
        refine lv_bipush (pc := 11) (v := 43) E.1 E.2.1 dX12_readSum_11 (by decide +kernel) ?_
        refine cm_i (pc := 13) hw42 (rn_M (As := [.int 43]) (rest := []) E hw42 (s_isSign2 l D cI cJ _ M mr (upd (upd (upd (upd (upd (upd (upd mi 22 x_32) 23 x_33) 24 x_34) 25 x_35) 34 x_36) 38 x_37) 39 x_38) (va_up (va_up mf 31 g_39) 32 g_40) mg 43) (gdV q_1718 q_1720 q_65 q_162 q_1721) hdV_X12_isSign ⟨rfl, rfl⟩ ⟨(Nat.le_of_ble_eq_true rfl), (Nat.le_of_ble_eq_true rfl)⟩ ⟨(Nat.le_of_ble_eq_true rfl), (Nat.le_of_ble_eq_true rfl)⟩ 12 rfl rfl rfl rfl hl43.1 rfl (Nat.le_of_ble_eq_true rfl) dX12_readSum_13) (fun r_45 u_44 H1 locs hp hw46 => ?_)
        generalize H1 = H at hw46 ⊢
        have hw47 : WD D A s.heap (MW cI cJ M mr (upd (upd (upd (upd (upd (upd (upd mi 22 x_32) 23 x_33) 24 x_34) 25 x_35) 34 x_36) 38 x_37) 39 x_38) (va_up (va_up mf 31 g_39) 32 g_40) mg) H locs := hw46
        have hp_48 := hp
        rcases hp_48 with ⟨rfl, ha_49, ha_50⟩ | rfl
        · skip
          have ha_49 : x_34.toInt = 4 := ha_49
          have ha_50 : x_35.toInt = (43 : Int32).toInt := ha_50
          rw [show (43 : Int32).toInt = 43 from by decide +kernel] at ha_50
          refine lv_if_ne (pc := 16) (tgt := 28) E.1 E.2.1 dX12_readSum_16 (by decide) (fun _ => ?_) (fun c_51 => absurd c_51 (mneE (a := 1) (b := 0) (by decide +kernel) (by decide +kernel) (by omega)))
          refine lv_aload_n (pc := 28) E.1 E.2.1 dX12_readSum_28 rfl (lv_at hl43 0 rfl) ?_
          refine x_get (pc := 29) (T := TX12) (N := 70) (ci := 12) (v := .int x_35) E hw47 inX12 0 25 q_1424 rfl rfl (by decide) rfl rfl dX12_readSum_29 ?_
          refine lv_bipush (pc := 32) (v := 43) E.1 E.2.1 dX12_readSum_32 (by decide +kernel) ?_
          refine lv_icmp_ne (pc := 34) (tgt := 41) E.1 E.2.1 dX12_readSum_34 (by decide) (fun c_52 => absurd (meqE (a := x_35.toInt) (b := 43) rfl (by decide +kernel) (by omega)) c_52) (fun _ => ?_)
          refine lv_iconst (pc := 37) (v := 2) E.1 E.2.1 dX12_readSum_37 (by decide +kernel) ?_
          refine lv_goto (pc := 38) (tgt := 42) E.1 E.2.1 dX12_readSum_38 (by decide) ?_
          refine lv_istore_n (pc := 42) (lv' := [(1, .int 2), (0, .ref M)]) E.1 E.2.1 dX12_readSum_42 rfl hl43 (by decide) rfl (fun ls hl53 => ?_)
          refine lv_aload_n (pc := 43) E.1 E.2.1 dX12_readSum_43 rfl (lv_at hl53 1 rfl) ?_
          refine cm_v (pc := 44) hw47 (rn_M (As := []) (rest := []) E hw47 (s_reads l D cI cJ _ M mr (upd (upd (upd (upd (upd (upd (upd mi 22 x_32) 23 x_33) 24 x_34) 25 x_35) 34 x_36) 38 x_37) 39 x_38) (va_up (va_up mf 31 g_39) 32 g_40) mg (by show 0 ≤ x_32.toInt; omega) (by show x_32.toInt ≤ (mi 21).toInt; omega) (by show (mi 21).toInt ≤ 400; omega) (by show ((mf 26) 153).toInt = 32; omega)) (gdV q_1666 q_1668 q_52 q_162 q_1669) hdV_X12_reads ⟨rfl, rfl⟩ ⟨(Nat.le_of_ble_eq_true rfl), (Nat.le_of_ble_eq_true rfl)⟩ ⟨(Nat.le_of_ble_eq_true rfl), (Nat.le_of_ble_eq_true rfl)⟩ 12 rfl rfl rfl rfl hl53.1 rfl (Nat.le_of_ble_eq_true rfl) dX12_readSum_44) (fun u_54 H1 locs hp hw56 => ?_)
          obtain ⟨nspot_57, nfrom_58, ntoken_59, nvalue_60⟩ := u_54
          generalize H1 = H at hw56 ⊢
          have hw61 : WD D A s.heap (MW cI cJ M mr (upd (upd (upd (upd (upd (upd (upd mi 22 nspot_57) 23 nfrom_58) 24 ntoken_59) 25 nvalue_60) 34 x_36) 38 x_37) 39 x_38) (va_up (va_up mf 31 g_39) 32 g_40) mg) H locs := hw56
          obtain ⟨hp_62, hp_63, hp_64, hp_65, hp_66, hp_67, hp_68⟩ := hp
          have hp_62 : 0 ≤ nfrom_58.toInt := hp_62
          have hp_63 : nfrom_58.toInt ≤ nspot_57.toInt := hp_63
          have hp_64 : nspot_57.toInt ≤ (mi 21).toInt := hp_64
          have hp_65 : 0 ≤ ntoken_59.toInt := hp_65
          have hp_66 : ntoken_59.toInt ≤ 4 := hp_66
          have hp_67 : ntoken_59.toInt ≤ 4 * nspot_57.toInt - 4 * nfrom_58.toInt := hp_67
          have hp_68 : x_32.toInt ≤ nfrom_58.toInt := hp_68
          refine lv_aload_n (pc := 47) E.1 E.2.1 dX12_readSum_47 rfl (lv_at hl53 1 rfl) ?_
          refine cm_i (pc := 48) hw61 (rn_M (As := []) (rest := []) E hw61 (s_readProduct l D cI cJ _ M mr (upd (upd (upd (upd (upd (upd (upd mi 22 nspot_57) 23 nfrom_58) 24 ntoken_59) 25 nvalue_60) 34 x_36) 38 x_37) 39 x_38) (va_up (va_up mf 31 g_39) 32 g_40) mg (by show 0 ≤ nfrom_58.toInt; omega) (by show nfrom_58.toInt ≤ nspot_57.toInt; omega) (by show nspot_57.toInt ≤ (mi 21).toInt; omega) (by show (mi 21).toInt ≤ 400; omega) (by show 0 ≤ ntoken_59.toInt; omega) (by show ntoken_59.toInt ≤ 4; omega) (by show ntoken_59.toInt ≤ 4 * nspot_57.toInt - 4 * nfrom_58.toInt; omega) (by show ((mf 26) 153).toInt = 32; omega) (by show 0 ≤ x_36.toInt; omega) (by show x_36.toInt ≤ nfrom_58.toInt; omega)) (gdV q_1774 q_1776 q_79 q_162 q_1777) hdV_X12_readProduct ⟨rfl, rfl⟩ ⟨(Nat.le_of_ble_eq_true rfl), (Nat.le_of_ble_eq_true rfl)⟩ ⟨(Nat.le_of_ble_eq_true rfl), (Nat.le_of_ble_eq_true rfl)⟩ 12 rfl rfl rfl rfl hl53.1 rfl (Nat.le_of_ble_eq_true rfl) dX12_readSum_48) (fun r_70 u_69 H1 locs hp hw71 => ?_)
          obtain ⟨nspot_72, nfrom_73, ntoken_74, nvalue_75, gop_76, garg_77, ncodes_78, nreadFault_79, nreadPlace_80⟩ := u_69
          generalize H1 = H at hw71 ⊢
          have hw81 : WD D A s.heap (MW cI cJ M mr (upd (upd (upd (upd (upd (upd (upd mi 22 nspot_72) 23 nfrom_73) 24 ntoken_74) 25 nvalue_75) 34 ncodes_78) 38 nreadFault_79) 39 nreadPlace_80) (va_up (va_up mf 31 gop_76) 32 garg_77) mg) H locs := hw71
          obtain ⟨hp_82, hp_83, hp_84, hp_85, hp_86, hp_87, hp_88, hp_89, hp_90, hp_91⟩ := hp
          have hp_82 : 0 ≤ nfrom_73.toInt := hp_82
          have hp_83 : nfrom_73.toInt ≤ nspot_72.toInt := hp_83
          have hp_84 : nspot_72.toInt ≤ (mi 21).toInt := hp_84
          have hp_85 : 0 ≤ ntoken_74.toInt := hp_85
          have hp_86 : ntoken_74.toInt ≤ 4 := hp_86
          have hp_87 : ntoken_74.toInt ≤ 4 * nspot_72.toInt - 4 * nfrom_73.toInt := hp_87
          have hp_88 : 0 ≤ ncodes_78.toInt := hp_88
          have hp_89 : ncodes_78.toInt ≤ nfrom_73.toInt := hp_89
          have hp_90 : r_70 = 0 → TX g_39 g_40 (800 + (x_36.toInt).toNat) gop_76 garg_77 (800 + (ncodes_78.toInt).toNat) := hp_90
          rcases hp_91 with rfl | ⟨rfl, ha_92, ha_93⟩
          · skip
            refine lv_iconst (pc := 51) (v := (-1)) E.1 E.2.1 dX12_readSum_51 (by decide +kernel) ?_
            refine lv_icmp_ne (pc := 52) (tgt := 57) E.1 E.2.1 dX12_readSum_52 (by decide) (fun c_94 => absurd (meqE (a := (-1)) (b := (-1)) (by decide +kernel) (by decide +kernel) (by omega)) c_94) (fun _ => ?_)
            refine lv_iconst (pc := 55) (v := (-1)) E.1 E.2.1 dX12_readSum_55 (by decide +kernel) ?_
            exact em_i (w1 := (fun (u : Int32 × Int32 × Int32 × Int32 × (Nat → Int32) × (Nat → Int32) × Int32 × Int32 × Int32) => (MW cI cJ M mr (upd (upd (upd (upd (upd (upd (upd mi 22 u.1) 23 u.2.1) 24 u.2.2.1) 25 u.2.2.2.1) 34 u.2.2.2.2.2.2.1) 38 u.2.2.2.2.2.2.2.1) 39 u.2.2.2.2.2.2.2.2) (va_up (va_up mf 31 u.2.2.2.2.1) 32 u.2.2.2.2.2.1) mg))) E hr hlk (nspot_72, nfrom_73, ntoken_74, nvalue_75, gop_76, garg_77, ncodes_78, nreadFault_79, nreadPlace_80) hw81 ⟨(by show 0 ≤ nfrom_73.toInt; have k_0 : ((-1) : Int32).toInt = -1 := (by decide +kernel); omega), (by show nfrom_73.toInt ≤ nspot_72.toInt; have k_0 : ((-1) : Int32).toInt = -1 := (by decide +kernel); omega), (by show nspot_72.toInt ≤ (mi 21).toInt; have k_0 : ((-1) : Int32).toInt = -1 := (by decide +kernel); omega), (by show 0 ≤ ntoken_74.toInt; have k_0 : ((-1) : Int32).toInt = -1 := (by decide +kernel); omega), (by show ntoken_74.toInt ≤ 4; have k_0 : ((-1) : Int32).toInt = -1 := (by decide +kernel); omega), (by show ntoken_74.toInt ≤ 4 * nspot_72.toInt - 4 * nfrom_73.toInt; have k_0 : ((-1) : Int32).toInt = -1 := (by decide +kernel); omega), (by show 0 ≤ ncodes_78.toInt; have k_0 : ((-1) : Int32).toInt = -1 := (by decide +kernel); omega), (by show ncodes_78.toInt ≤ nfrom_73.toInt; have k_0 : ((-1) : Int32).toInt = -1 := (by decide +kernel); omega), (fun h => absurd h (by decide +kernel)), (Or.inl rfl)⟩ (Nat.le_of_ble_eq_true rfl) (Nat.le_of_ble_eq_true rfl) dX12_readSum_56
          · skip
            have hp_90 := hp_90 rfl
            have ha_92 : nfrom_58.toInt - x_36.toInt ≤ nfrom_73.toInt - ncodes_78.toInt := ha_92
            have ha_93 : nfrom_58.toInt + 1 ≤ nfrom_73.toInt := ha_93
            refine lv_iconst (pc := 51) (v := (-1)) E.1 E.2.1 dX12_readSum_51 (by decide +kernel) ?_
            refine lv_icmp_ne (pc := 52) (tgt := 57) E.1 E.2.1 dX12_readSum_52 (by decide) (fun _ => ?_) (fun c_95 => absurd c_95 (mneE (a := 0) (b := (-1)) (by decide +kernel) (by decide +kernel) (by omega)))
            refine lv_aload_n (pc := 57) E.1 E.2.1 dX12_readSum_57 rfl (lv_at hl53 1 rfl) ?_
            refine lv_iload_n (pc := 58) E.1 E.2.1 dX12_readSum_58 rfl (lv_at hl53 0 rfl) ?_
            refine lv_iconst (pc := 59) (v := 0) E.1 E.2.1 dX12_readSum_59 (by decide +kernel) ?_
            refine cm_v (pc := 60) hw81 (rn_M (As := [.int 2, .int 0]) (rest := []) E hw81 (s_emits2 l D cI cJ _ M mr (upd (upd (upd (upd (upd (upd (upd mi 22 nspot_72) 23 nfrom_73) 24 ntoken_74) 25 nvalue_75) 34 ncodes_78) 38 nreadFault_79) 39 nreadPlace_80) (va_up (va_up mf 31 gop_76) 32 garg_77) mg 2 0 (by show 0 ≤ ncodes_78.toInt ∧ ncodes_78.toInt ≤ 399; omega)) (gdV q_1786 q_1788 q_82 q_162 q_1789) hdV_X12_emits ⟨rfl, rfl⟩ ⟨(Nat.le_of_ble_eq_true rfl), (Nat.le_of_ble_eq_true rfl)⟩ ⟨(Nat.le_of_ble_eq_true rfl), (Nat.le_of_ble_eq_true rfl)⟩ 12 rfl rfl rfl rfl hl53.1 rfl (Nat.le_of_ble_eq_true rfl) dX12_readSum_60) (fun u_96 H1 locs hp hw98 => ?_)
            obtain ⟨gop_99, garg_100, ncodes_101⟩ := u_96
            generalize H1 = H at hw98 ⊢
            have hw102 : WD D A s.heap (MW cI cJ M mr (upd (upd (upd (upd (upd (upd (upd mi 22 nspot_72) 23 nfrom_73) 24 ntoken_74) 25 nvalue_75) 34 ncodes_101) 38 nreadFault_79) 39 nreadPlace_80) (va_up (va_up mf 31 gop_99) 32 garg_100) mg) H locs := hw98
            obtain ⟨hp_103, hp_104⟩ := hp
            have hp_103 : ncodes_101.toInt = ncodes_78.toInt + 1 := hp_103
            have hp_104 : EM gop_76 garg_77 gop_99 garg_100 (800 + (ncodes_78.toInt).toNat) (2 : Int32) (0 : Int32) := hp_104
            refine lv_goto (pc := 63) (tgt := 10) E.1 E.2.1 dX12_readSum_63 (by decide) ?_
            exact ih_41 nspot_72 nfrom_73 ntoken_74 nvalue_75 ncodes_101 nreadFault_79 nreadPlace_80 gop_99 garg_100 _ _ _ ⟨(by show 0 ≤ nfrom_73.toInt; omega), (by show nfrom_73.toInt ≤ nspot_72.toInt; omega), (by show nspot_72.toInt ≤ (mi 21).toInt; omega), (by show 0 ≤ ntoken_74.toInt; omega), (by show ntoken_74.toInt ≤ 4; omega), (by show ntoken_74.toInt ≤ 4 * nspot_72.toInt - 4 * nfrom_73.toInt; omega), (by show 0 ≤ ncodes_101.toInt; omega), (by show ncodes_101.toInt ≤ nfrom_73.toInt; omega), (by show (mi 23).toInt - (mi 34).toInt ≤ nfrom_73.toInt - ncodes_101.toInt; omega), (by show (mi 23).toInt + 1 ≤ nfrom_73.toInt; omega), (TX_two hi_40_10 hp_90 hp_104 ⟨by decide +kernel, by decide +kernel, by decide +kernel, fun h => absurd h (by decide +kernel)⟩ (by omega))⟩ (by omega) hw102 (lv_sub hl53 [1] rfl)
        · skip
          refine lv_if_ne (pc := 16) (tgt := 28) E.1 E.2.1 dX12_readSum_16 (by decide) (fun c_105 => absurd (meqE (a := 0) (b := 0) (by decide +kernel) (by decide +kernel) (by omega)) c_105) (fun _ => ?_)
          refine lv_aload_n (pc := 19) E.1 E.2.1 dX12_readSum_19 rfl (lv_at hl43 0 rfl) ?_
          refine lv_bipush (pc := 20) (v := 45) E.1 E.2.1 dX12_readSum_20 (by decide +kernel) ?_
          refine cm_i (pc := 22) hw47 (rn_M (As := [.int 45]) (rest := []) E hw47 (s_isSign2 l D cI cJ _ M mr (upd (upd (upd (upd (upd (upd (upd mi 22 x_32) 23 x_33) 24 x_34) 25 x_35) 34 x_36) 38 x_37) 39 x_38) (va_up (va_up mf 31 g_39) 32 g_40) mg 45) (gdV q_1718 q_1720 q_65 q_162 q_1721) hdV_X12_isSign ⟨rfl, rfl⟩ ⟨(Nat.le_of_ble_eq_true rfl), (Nat.le_of_ble_eq_true rfl)⟩ ⟨(Nat.le_of_ble_eq_true rfl), (Nat.le_of_ble_eq_true rfl)⟩ 12 rfl rfl rfl rfl hl43.1 rfl (Nat.le_of_ble_eq_true rfl) dX12_readSum_22) (fun r_107 u_106 H1 locs hp hw108 => ?_)
          generalize H1 = H at hw108 ⊢
          have hw109 : WD D A s.heap (MW cI cJ M mr (upd (upd (upd (upd (upd (upd (upd mi 22 x_32) 23 x_33) 24 x_34) 25 x_35) 34 x_36) 38 x_37) 39 x_38) (va_up (va_up mf 31 g_39) 32 g_40) mg) H locs := hw108
          have hp_110 := hp
          rcases hp_110 with ⟨rfl, ha_111, ha_112⟩ | rfl
          · skip
            have ha_111 : x_34.toInt = 4 := ha_111
            have ha_112 : x_35.toInt = (45 : Int32).toInt := ha_112
            rw [show (45 : Int32).toInt = 45 from by decide +kernel] at ha_112
            refine lv_if_eq (pc := 25) (tgt := 66) E.1 E.2.1 dX12_readSum_25 (by decide) (fun c_113 => absurd c_113 (mneE (a := 1) (b := 0) (by decide +kernel) (by decide +kernel) (by omega))) (fun _ => ?_)
            refine lv_aload_n (pc := 28) E.1 E.2.1 dX12_readSum_28 rfl (lv_at hl43 0 rfl) ?_
            refine x_get (pc := 29) (T := TX12) (N := 70) (ci := 12) (v := .int x_35) E hw109 inX12 0 25 q_1424 rfl rfl (by decide) rfl rfl dX12_readSum_29 ?_
            refine lv_bipush (pc := 32) (v := 43) E.1 E.2.1 dX12_readSum_32 (by decide +kernel) ?_
            refine lv_icmp_ne (pc := 34) (tgt := 41) E.1 E.2.1 dX12_readSum_34 (by decide) (fun _ => ?_) (fun c_114 => absurd c_114 (mneE (a := x_35.toInt) (b := 43) rfl (by decide +kernel) (by omega)))
            refine lv_iconst (pc := 41) (v := 3) E.1 E.2.1 dX12_readSum_41 (by decide +kernel) ?_
            refine lv_istore_n (pc := 42) (lv' := [(1, .int 3), (0, .ref M)]) E.1 E.2.1 dX12_readSum_42 rfl hl43 (by decide) rfl (fun ls hl115 => ?_)
            refine lv_aload_n (pc := 43) E.1 E.2.1 dX12_readSum_43 rfl (lv_at hl115 1 rfl) ?_
            refine cm_v (pc := 44) hw109 (rn_M (As := []) (rest := []) E hw109 (s_reads l D cI cJ _ M mr (upd (upd (upd (upd (upd (upd (upd mi 22 x_32) 23 x_33) 24 x_34) 25 x_35) 34 x_36) 38 x_37) 39 x_38) (va_up (va_up mf 31 g_39) 32 g_40) mg (by show 0 ≤ x_32.toInt; omega) (by show x_32.toInt ≤ (mi 21).toInt; omega) (by show (mi 21).toInt ≤ 400; omega) (by show ((mf 26) 153).toInt = 32; omega)) (gdV q_1666 q_1668 q_52 q_162 q_1669) hdV_X12_reads ⟨rfl, rfl⟩ ⟨(Nat.le_of_ble_eq_true rfl), (Nat.le_of_ble_eq_true rfl)⟩ ⟨(Nat.le_of_ble_eq_true rfl), (Nat.le_of_ble_eq_true rfl)⟩ 12 rfl rfl rfl rfl hl115.1 rfl (Nat.le_of_ble_eq_true rfl) dX12_readSum_44) (fun u_116 H1 locs hp hw118 => ?_)
            obtain ⟨nspot_119, nfrom_120, ntoken_121, nvalue_122⟩ := u_116
            generalize H1 = H at hw118 ⊢
            have hw123 : WD D A s.heap (MW cI cJ M mr (upd (upd (upd (upd (upd (upd (upd mi 22 nspot_119) 23 nfrom_120) 24 ntoken_121) 25 nvalue_122) 34 x_36) 38 x_37) 39 x_38) (va_up (va_up mf 31 g_39) 32 g_40) mg) H locs := hw118
            obtain ⟨hp_124, hp_125, hp_126, hp_127, hp_128, hp_129, hp_130⟩ := hp
            have hp_124 : 0 ≤ nfrom_120.toInt := hp_124
            have hp_125 : nfrom_120.toInt ≤ nspot_119.toInt := hp_125
            have hp_126 : nspot_119.toInt ≤ (mi 21).toInt := hp_126
            have hp_127 : 0 ≤ ntoken_121.toInt := hp_127
            have hp_128 : ntoken_121.toInt ≤ 4 := hp_128
            have hp_129 : ntoken_121.toInt ≤ 4 * nspot_119.toInt - 4 * nfrom_120.toInt := hp_129
            have hp_130 : x_32.toInt ≤ nfrom_120.toInt := hp_130
            refine lv_aload_n (pc := 47) E.1 E.2.1 dX12_readSum_47 rfl (lv_at hl115 1 rfl) ?_
            refine cm_i (pc := 48) hw123 (rn_M (As := []) (rest := []) E hw123 (s_readProduct l D cI cJ _ M mr (upd (upd (upd (upd (upd (upd (upd mi 22 nspot_119) 23 nfrom_120) 24 ntoken_121) 25 nvalue_122) 34 x_36) 38 x_37) 39 x_38) (va_up (va_up mf 31 g_39) 32 g_40) mg (by show 0 ≤ nfrom_120.toInt; omega) (by show nfrom_120.toInt ≤ nspot_119.toInt; omega) (by show nspot_119.toInt ≤ (mi 21).toInt; omega) (by show (mi 21).toInt ≤ 400; omega) (by show 0 ≤ ntoken_121.toInt; omega) (by show ntoken_121.toInt ≤ 4; omega) (by show ntoken_121.toInt ≤ 4 * nspot_119.toInt - 4 * nfrom_120.toInt; omega) (by show ((mf 26) 153).toInt = 32; omega) (by show 0 ≤ x_36.toInt; omega) (by show x_36.toInt ≤ nfrom_120.toInt; omega)) (gdV q_1774 q_1776 q_79 q_162 q_1777) hdV_X12_readProduct ⟨rfl, rfl⟩ ⟨(Nat.le_of_ble_eq_true rfl), (Nat.le_of_ble_eq_true rfl)⟩ ⟨(Nat.le_of_ble_eq_true rfl), (Nat.le_of_ble_eq_true rfl)⟩ 12 rfl rfl rfl rfl hl115.1 rfl (Nat.le_of_ble_eq_true rfl) dX12_readSum_48) (fun r_132 u_131 H1 locs hp hw133 => ?_)
            obtain ⟨nspot_134, nfrom_135, ntoken_136, nvalue_137, gop_138, garg_139, ncodes_140, nreadFault_141, nreadPlace_142⟩ := u_131
            generalize H1 = H at hw133 ⊢
            have hw143 : WD D A s.heap (MW cI cJ M mr (upd (upd (upd (upd (upd (upd (upd mi 22 nspot_134) 23 nfrom_135) 24 ntoken_136) 25 nvalue_137) 34 ncodes_140) 38 nreadFault_141) 39 nreadPlace_142) (va_up (va_up mf 31 gop_138) 32 garg_139) mg) H locs := hw133
            obtain ⟨hp_144, hp_145, hp_146, hp_147, hp_148, hp_149, hp_150, hp_151, hp_152, hp_153⟩ := hp
            have hp_144 : 0 ≤ nfrom_135.toInt := hp_144
            have hp_145 : nfrom_135.toInt ≤ nspot_134.toInt := hp_145
            have hp_146 : nspot_134.toInt ≤ (mi 21).toInt := hp_146
            have hp_147 : 0 ≤ ntoken_136.toInt := hp_147
            have hp_148 : ntoken_136.toInt ≤ 4 := hp_148
            have hp_149 : ntoken_136.toInt ≤ 4 * nspot_134.toInt - 4 * nfrom_135.toInt := hp_149
            have hp_150 : 0 ≤ ncodes_140.toInt := hp_150
            have hp_151 : ncodes_140.toInt ≤ nfrom_135.toInt := hp_151
            have hp_152 : r_132 = 0 → TX g_39 g_40 (800 + (x_36.toInt).toNat) gop_138 garg_139 (800 + (ncodes_140.toInt).toNat) := hp_152
            rcases hp_153 with rfl | ⟨rfl, ha_154, ha_155⟩
            · skip
              refine lv_iconst (pc := 51) (v := (-1)) E.1 E.2.1 dX12_readSum_51 (by decide +kernel) ?_
              refine lv_icmp_ne (pc := 52) (tgt := 57) E.1 E.2.1 dX12_readSum_52 (by decide) (fun c_156 => absurd (meqE (a := (-1)) (b := (-1)) (by decide +kernel) (by decide +kernel) (by omega)) c_156) (fun _ => ?_)
              refine lv_iconst (pc := 55) (v := (-1)) E.1 E.2.1 dX12_readSum_55 (by decide +kernel) ?_
              exact em_i (w1 := (fun (u : Int32 × Int32 × Int32 × Int32 × (Nat → Int32) × (Nat → Int32) × Int32 × Int32 × Int32) => (MW cI cJ M mr (upd (upd (upd (upd (upd (upd (upd mi 22 u.1) 23 u.2.1) 24 u.2.2.1) 25 u.2.2.2.1) 34 u.2.2.2.2.2.2.1) 38 u.2.2.2.2.2.2.2.1) 39 u.2.2.2.2.2.2.2.2) (va_up (va_up mf 31 u.2.2.2.2.1) 32 u.2.2.2.2.2.1) mg))) E hr hlk (nspot_134, nfrom_135, ntoken_136, nvalue_137, gop_138, garg_139, ncodes_140, nreadFault_141, nreadPlace_142) hw143 ⟨(by show 0 ≤ nfrom_135.toInt; have k_0 : ((-1) : Int32).toInt = -1 := (by decide +kernel); omega), (by show nfrom_135.toInt ≤ nspot_134.toInt; have k_0 : ((-1) : Int32).toInt = -1 := (by decide +kernel); omega), (by show nspot_134.toInt ≤ (mi 21).toInt; have k_0 : ((-1) : Int32).toInt = -1 := (by decide +kernel); omega), (by show 0 ≤ ntoken_136.toInt; have k_0 : ((-1) : Int32).toInt = -1 := (by decide +kernel); omega), (by show ntoken_136.toInt ≤ 4; have k_0 : ((-1) : Int32).toInt = -1 := (by decide +kernel); omega), (by show ntoken_136.toInt ≤ 4 * nspot_134.toInt - 4 * nfrom_135.toInt; have k_0 : ((-1) : Int32).toInt = -1 := (by decide +kernel); omega), (by show 0 ≤ ncodes_140.toInt; have k_0 : ((-1) : Int32).toInt = -1 := (by decide +kernel); omega), (by show ncodes_140.toInt ≤ nfrom_135.toInt; have k_0 : ((-1) : Int32).toInt = -1 := (by decide +kernel); omega), (fun h => absurd h (by decide +kernel)), (Or.inl rfl)⟩ (Nat.le_of_ble_eq_true rfl) (Nat.le_of_ble_eq_true rfl) dX12_readSum_56
            · skip
              have hp_152 := hp_152 rfl
              have ha_154 : nfrom_120.toInt - x_36.toInt ≤ nfrom_135.toInt - ncodes_140.toInt := ha_154
              have ha_155 : nfrom_120.toInt + 1 ≤ nfrom_135.toInt := ha_155
              refine lv_iconst (pc := 51) (v := (-1)) E.1 E.2.1 dX12_readSum_51 (by decide +kernel) ?_
              refine lv_icmp_ne (pc := 52) (tgt := 57) E.1 E.2.1 dX12_readSum_52 (by decide) (fun _ => ?_) (fun c_157 => absurd c_157 (mneE (a := 0) (b := (-1)) (by decide +kernel) (by decide +kernel) (by omega)))
              refine lv_aload_n (pc := 57) E.1 E.2.1 dX12_readSum_57 rfl (lv_at hl115 1 rfl) ?_
              refine lv_iload_n (pc := 58) E.1 E.2.1 dX12_readSum_58 rfl (lv_at hl115 0 rfl) ?_
              refine lv_iconst (pc := 59) (v := 0) E.1 E.2.1 dX12_readSum_59 (by decide +kernel) ?_
              refine cm_v (pc := 60) hw143 (rn_M (As := [.int 3, .int 0]) (rest := []) E hw143 (s_emits2 l D cI cJ _ M mr (upd (upd (upd (upd (upd (upd (upd mi 22 nspot_134) 23 nfrom_135) 24 ntoken_136) 25 nvalue_137) 34 ncodes_140) 38 nreadFault_141) 39 nreadPlace_142) (va_up (va_up mf 31 gop_138) 32 garg_139) mg 3 0 (by show 0 ≤ ncodes_140.toInt ∧ ncodes_140.toInt ≤ 399; omega)) (gdV q_1786 q_1788 q_82 q_162 q_1789) hdV_X12_emits ⟨rfl, rfl⟩ ⟨(Nat.le_of_ble_eq_true rfl), (Nat.le_of_ble_eq_true rfl)⟩ ⟨(Nat.le_of_ble_eq_true rfl), (Nat.le_of_ble_eq_true rfl)⟩ 12 rfl rfl rfl rfl hl115.1 rfl (Nat.le_of_ble_eq_true rfl) dX12_readSum_60) (fun u_158 H1 locs hp hw160 => ?_)
              obtain ⟨gop_161, garg_162, ncodes_163⟩ := u_158
              generalize H1 = H at hw160 ⊢
              have hw164 : WD D A s.heap (MW cI cJ M mr (upd (upd (upd (upd (upd (upd (upd mi 22 nspot_134) 23 nfrom_135) 24 ntoken_136) 25 nvalue_137) 34 ncodes_163) 38 nreadFault_141) 39 nreadPlace_142) (va_up (va_up mf 31 gop_161) 32 garg_162) mg) H locs := hw160
              obtain ⟨hp_165, hp_166⟩ := hp
              have hp_165 : ncodes_163.toInt = ncodes_140.toInt + 1 := hp_165
              have hp_166 : EM gop_138 garg_139 gop_161 garg_162 (800 + (ncodes_140.toInt).toNat) (3 : Int32) (0 : Int32) := hp_166
              refine lv_goto (pc := 63) (tgt := 10) E.1 E.2.1 dX12_readSum_63 (by decide) ?_
              exact ih_41 nspot_134 nfrom_135 ntoken_136 nvalue_137 ncodes_163 nreadFault_141 nreadPlace_142 gop_161 garg_162 _ _ _ ⟨(by show 0 ≤ nfrom_135.toInt; omega), (by show nfrom_135.toInt ≤ nspot_134.toInt; omega), (by show nspot_134.toInt ≤ (mi 21).toInt; omega), (by show 0 ≤ ntoken_136.toInt; omega), (by show ntoken_136.toInt ≤ 4; omega), (by show ntoken_136.toInt ≤ 4 * nspot_134.toInt - 4 * nfrom_135.toInt; omega), (by show 0 ≤ ncodes_163.toInt; omega), (by show ncodes_163.toInt ≤ nfrom_135.toInt; omega), (by show (mi 23).toInt - (mi 34).toInt ≤ nfrom_135.toInt - ncodes_163.toInt; omega), (by show (mi 23).toInt + 1 ≤ nfrom_135.toInt; omega), (TX_two hi_40_10 hp_152 hp_166 ⟨by decide +kernel, by decide +kernel, by decide +kernel, fun h => absurd h (by decide +kernel)⟩ (by omega))⟩ (by omega) hw164 (lv_sub hl115 [1] rfl)
          · skip
            refine lv_if_eq (pc := 25) (tgt := 66) E.1 E.2.1 dX12_readSum_25 (by decide) (fun _ => ?_) (fun c_167 => absurd (meqE (a := 0) (b := 0) (by decide +kernel) (by decide +kernel) (by omega)) c_167)
            refine lv_iconst (pc := 66) (v := 0) E.1 E.2.1 dX12_readSum_66 (by decide +kernel) ?_
            exact em_i (w1 := (fun (u : Int32 × Int32 × Int32 × Int32 × (Nat → Int32) × (Nat → Int32) × Int32 × Int32 × Int32) => (MW cI cJ M mr (upd (upd (upd (upd (upd (upd (upd mi 22 u.1) 23 u.2.1) 24 u.2.2.1) 25 u.2.2.2.1) 34 u.2.2.2.2.2.2.1) 38 u.2.2.2.2.2.2.2.1) 39 u.2.2.2.2.2.2.2.2) (va_up (va_up mf 31 u.2.2.2.2.1) 32 u.2.2.2.2.2.1) mg))) E hr hlk (x_32, x_33, x_34, x_35, g_39, g_40, x_36, x_37, x_38) hw109 ⟨(by show 0 ≤ x_33.toInt; have k_0 : (0 : Int32).toInt = 0 := (by decide +kernel); omega), (by show x_33.toInt ≤ x_32.toInt; have k_0 : (0 : Int32).toInt = 0 := (by decide +kernel); omega), (by show x_32.toInt ≤ (mi 21).toInt; have k_0 : (0 : Int32).toInt = 0 := (by decide +kernel); omega), (by show 0 ≤ x_34.toInt; have k_0 : (0 : Int32).toInt = 0 := (by decide +kernel); omega), (by show x_34.toInt ≤ 4; have k_0 : (0 : Int32).toInt = 0 := (by decide +kernel); omega), (by show x_34.toInt ≤ 4 * x_32.toInt - 4 * x_33.toInt; have k_0 : (0 : Int32).toInt = 0 := (by decide +kernel); omega), (by show 0 ≤ x_36.toInt; have k_0 : (0 : Int32).toInt = 0 := (by decide +kernel); omega), (by show x_36.toInt ≤ x_33.toInt; have k_0 : (0 : Int32).toInt = 0 := (by decide +kernel); omega), (fun _ => (show TX (mf 31) (mf 32) (800 + ((mi 34).toInt).toNat) g_39 g_40 (800 + (x_36.toInt).toNat) from hi_40_10)), (Or.inr (⟨rfl, (by show (mi 23).toInt - (mi 34).toInt ≤ x_33.toInt - x_36.toInt; omega), (by show (mi 23).toInt + 1 ≤ x_33.toInt; omega)⟩))⟩ (Nat.le_of_ble_eq_true rfl) (Nat.le_of_ble_eq_true rfl) dX12_readSum_67
    exact loop_31 (Int.toNat ((mi 21).toInt - nfrom_8.toInt) + 1) nspot_7 nfrom_8 ntoken_9 nvalue_10 ncodes_13 nreadFault_14 nreadPlace_15 gop_11 garg_12 _ _ _ ⟨(by show 0 ≤ nfrom_8.toInt; omega), (by show nfrom_8.toInt ≤ nspot_7.toInt; omega), (by show nspot_7.toInt ≤ (mi 21).toInt; omega), (by show 0 ≤ ntoken_9.toInt; omega), (by show ntoken_9.toInt ≤ 4; omega), (by show ntoken_9.toInt ≤ 4 * nspot_7.toInt - 4 * nfrom_8.toInt; omega), (by show 0 ≤ ncodes_13.toInt; omega), (by show ncodes_13.toInt ≤ nfrom_8.toInt; omega), (by show (mi 23).toInt - (mi 34).toInt ≤ nfrom_8.toInt - ncodes_13.toInt; omega), (by show (mi 23).toInt + 1 ≤ nfrom_8.toInt; omega), hp_25⟩ (by omega) hw16 (lv_sub hl3 [0] rfl)

set_option maxHeartbeats 4000000 in
set_option maxRecDepth 100000 in
theorem s_readCompared (l : Launch) (D : va_G) (cI cJ : ClassId) (sz M : Nat) (mr : Nat → Nat) (mi : Nat → Int32) (mf : Nat → Nat → Int32) (mg : Nat → Nat → Int64)  (h0 : 0 ≤ (mi 23).toInt) (h1 : (mi 23).toInt ≤ (mi 22).toInt) (h2 : (mi 22).toInt ≤ (mi 21).toInt) (h3 : (mi 21).toInt ≤ 400) (h4 : 0 ≤ (mi 24).toInt) (h5 : (mi 24).toInt ≤ 4) (h6 : (mi 24).toInt ≤ 4 * (mi 22).toInt - 4 * (mi 23).toInt) (h7 : ((mf 26) 153).toInt = 32) (h8 : 0 ≤ (mi 34).toInt) (h9 : (mi 34).toInt ≤ (mi 23).toInt) : Met l yX12_readCompared (Cond.code yX12_readCompared cX12_readCompared 2 (some .int) :: GW) ({ frames := 7, cells := 0, slots := 0, locals := 168 } : Room) (va_Pc [.ref M] (PW D cI cJ sz (MW cI cJ M mr mi mf mg) xT)) (va_Qi (fun (r : Int32) (u : Int32 × Int32 × Int32 × Int32 × (Nat → Int32) × (Nat → Int32) × Int32 × Int32 × Int32) => (0 ≤ u.2.1.toInt) ∧ (u.2.1.toInt ≤ u.1.toInt) ∧ (u.1.toInt ≤ (mi 21).toInt) ∧ (0 ≤ u.2.2.1.toInt) ∧ (u.2.2.1.toInt ≤ 4) ∧ (u.2.2.1.toInt ≤ 4 * u.1.toInt - 4 * u.2.1.toInt) ∧ (0 ≤ u.2.2.2.2.2.2.1.toInt) ∧ (u.2.2.2.2.2.2.1.toInt ≤ u.2.1.toInt) ∧ (r = 0 → TX (mf 31) (mf 32) (800 + ((mi 34).toInt).toNat) u.2.2.2.2.1 u.2.2.2.2.2.1 (800 + (u.2.2.2.2.2.2.1.toInt).toNat)) ∧ ((r = (-1)) ∨ (r = 0 ∧ (mi 23).toInt - (mi 34).toInt ≤ u.2.1.toInt - u.2.2.2.2.2.2.1.toInt ∧ (mi 23).toInt + 1 ≤ u.2.1.toInt))) (fun u => QW D cI cJ (va_A (MW cI cJ M mr mi mf mg) sz) ((fun (u : Int32 × Int32 × Int32 × Int32 × (Nat → Int32) × (Nat → Int32) × Int32 × Int32 × Int32) => (MW cI cJ M mr (upd (upd (upd (upd (upd (upd (upd mi 22 u.1) 23 u.2.1) 24 u.2.2.1) 25 u.2.2.2.1) 34 u.2.2.2.2.2.2.1) 38 u.2.2.2.2.2.2.2.1) 39 u.2.2.2.2.2.2.2.2) (va_up (va_up mf 31 u.2.2.2.2.1) 32 u.2.2.2.2.2.1) mg)) u)) (va_A (MW cI cJ M mr mi mf mg) sz)) 0 0 (va_A (MW cI cJ M mr mi mf mg) sz) := by
  refine mk_met (y := yX12_readCompared) (bytes := cX12_readCompared) (maxL := 2) (avs := [.ref M]) (WS := (MW cI cJ M mr mi mf mg)) (Qf := fun A => va_Qi (fun (r : Int32) (u : Int32 × Int32 × Int32 × Int32 × (Nat → Int32) × (Nat → Int32) × Int32 × Int32 × Int32) => (0 ≤ u.2.1.toInt) ∧ (u.2.1.toInt ≤ u.1.toInt) ∧ (u.1.toInt ≤ (mi 21).toInt) ∧ (0 ≤ u.2.2.1.toInt) ∧ (u.2.2.1.toInt ≤ 4) ∧ (u.2.2.1.toInt ≤ 4 * u.1.toInt - 4 * u.2.1.toInt) ∧ (0 ≤ u.2.2.2.2.2.2.1.toInt) ∧ (u.2.2.2.2.2.2.1.toInt ≤ u.2.1.toInt) ∧ (r = 0 → TX (mf 31) (mf 32) (800 + ((mi 34).toInt).toNat) u.2.2.2.2.1 u.2.2.2.2.2.1 (800 + (u.2.2.2.2.2.2.1.toInt).toNat)) ∧ ((r = (-1)) ∨ (r = 0 ∧ (mi 23).toInt - (mi 34).toInt ≤ u.2.1.toInt - u.2.2.2.2.2.2.1.toInt ∧ (mi 23).toInt + 1 ≤ u.2.1.toInt))) (fun u => QW D cI cJ A ((fun (u : Int32 × Int32 × Int32 × Int32 × (Nat → Int32) × (Nat → Int32) × Int32 × Int32 × Int32) => (MW cI cJ M mr (upd (upd (upd (upd (upd (upd (upd mi 22 u.1) 23 u.2.1) 24 u.2.2.1) 25 u.2.2.2.1) 34 u.2.2.2.2.2.2.1) 38 u.2.2.2.2.2.2.2.1) 39 u.2.2.2.2.2.2.2.2) (va_up (va_up mf 31 u.2.2.2.2.1) 32 u.2.2.2.2.2.1) mg)) u)) A) (by decide) (Nat.le_of_ble_eq_true rfl) ?_
  intro p e s m below meth c A ls E hr hlk hnm hX hw1 hl2
  have hl3 : lv_has ls 2 [(0, .ref M)] := hl2
  refine lv_aload_n (pc := 0) E.1 E.2.1 dX12_readCompared_0 rfl (lv_at hl3 0 rfl) ?_
  refine cm_i (pc := 1) hw1 (rn_M (As := []) (rest := []) E hw1 (s_readSum l D cI cJ _ M mr mi mf mg (by show 0 ≤ (mi 23).toInt; omega) (by show (mi 23).toInt ≤ (mi 22).toInt; omega) (by show (mi 22).toInt ≤ (mi 21).toInt; omega) (by show (mi 21).toInt ≤ 400; omega) (by show 0 ≤ (mi 24).toInt; omega) (by show (mi 24).toInt ≤ 4; omega) (by show (mi 24).toInt ≤ 4 * (mi 22).toInt - 4 * (mi 23).toInt; omega) (by show ((mf 26) 153).toInt = 32; omega) (by show 0 ≤ (mi 34).toInt; omega) (by show (mi 34).toInt ≤ (mi 23).toInt; omega)) (gdV q_1770 q_1772 q_78 q_162 q_1773) hdV_X12_readSum ⟨rfl, rfl⟩ ⟨(Nat.le_of_ble_eq_true rfl), (Nat.le_of_ble_eq_true rfl)⟩ ⟨(Nat.le_of_ble_eq_true rfl), (Nat.le_of_ble_eq_true rfl)⟩ 12 rfl rfl rfl rfl hl3.1 rfl (Nat.le_of_ble_eq_true rfl) dX12_readCompared_1) (fun r_5 u_4 H1 locs hp hw6 => ?_)
  obtain ⟨nspot_7, nfrom_8, ntoken_9, nvalue_10, gop_11, garg_12, ncodes_13, nreadFault_14, nreadPlace_15⟩ := u_4
  generalize H1 = H at hw6 ⊢
  have hw16 : WD D A s.heap (MW cI cJ M mr (upd (upd (upd (upd (upd (upd (upd mi 22 nspot_7) 23 nfrom_8) 24 ntoken_9) 25 nvalue_10) 34 ncodes_13) 38 nreadFault_14) 39 nreadPlace_15) (va_up (va_up mf 31 gop_11) 32 garg_12) mg) H locs := hw6
  obtain ⟨hp_17, hp_18, hp_19, hp_20, hp_21, hp_22, hp_23, hp_24, hp_25, hp_26⟩ := hp
  have hp_17 : 0 ≤ nfrom_8.toInt := hp_17
  have hp_18 : nfrom_8.toInt ≤ nspot_7.toInt := hp_18
  have hp_19 : nspot_7.toInt ≤ (mi 21).toInt := hp_19
  have hp_20 : 0 ≤ ntoken_9.toInt := hp_20
  have hp_21 : ntoken_9.toInt ≤ 4 := hp_21
  have hp_22 : ntoken_9.toInt ≤ 4 * nspot_7.toInt - 4 * nfrom_8.toInt := hp_22
  have hp_23 : 0 ≤ ncodes_13.toInt := hp_23
  have hp_24 : ncodes_13.toInt ≤ nfrom_8.toInt := hp_24
  have hp_25 : r_5 = 0 → TX (mf 31) (mf 32) (800 + ((mi 34).toInt).toNat) gop_11 garg_12 (800 + (ncodes_13.toInt).toNat) := hp_25
  rcases hp_26 with rfl | ⟨rfl, ha_27, ha_28⟩
  · skip
    refine lv_iconst (pc := 4) (v := (-1)) E.1 E.2.1 dX12_readCompared_4 (by decide +kernel) ?_
    refine lv_icmp_ne (pc := 5) (tgt := 10) E.1 E.2.1 dX12_readCompared_5 (by decide) (fun c_29 => absurd (meqE (a := (-1)) (b := (-1)) (by decide +kernel) (by decide +kernel) (by omega)) c_29) (fun _ => ?_)
    refine lv_iconst (pc := 8) (v := (-1)) E.1 E.2.1 dX12_readCompared_8 (by decide +kernel) ?_
    exact em_i (w1 := (fun (u : Int32 × Int32 × Int32 × Int32 × (Nat → Int32) × (Nat → Int32) × Int32 × Int32 × Int32) => (MW cI cJ M mr (upd (upd (upd (upd (upd (upd (upd mi 22 u.1) 23 u.2.1) 24 u.2.2.1) 25 u.2.2.2.1) 34 u.2.2.2.2.2.2.1) 38 u.2.2.2.2.2.2.2.1) 39 u.2.2.2.2.2.2.2.2) (va_up (va_up mf 31 u.2.2.2.2.1) 32 u.2.2.2.2.2.1) mg))) E hr hlk (nspot_7, nfrom_8, ntoken_9, nvalue_10, gop_11, garg_12, ncodes_13, nreadFault_14, nreadPlace_15) hw16 ⟨(by show 0 ≤ nfrom_8.toInt; have k_0 : ((-1) : Int32).toInt = -1 := (by decide +kernel); omega), (by show nfrom_8.toInt ≤ nspot_7.toInt; have k_0 : ((-1) : Int32).toInt = -1 := (by decide +kernel); omega), (by show nspot_7.toInt ≤ (mi 21).toInt; have k_0 : ((-1) : Int32).toInt = -1 := (by decide +kernel); omega), (by show 0 ≤ ntoken_9.toInt; have k_0 : ((-1) : Int32).toInt = -1 := (by decide +kernel); omega), (by show ntoken_9.toInt ≤ 4; have k_0 : ((-1) : Int32).toInt = -1 := (by decide +kernel); omega), (by show ntoken_9.toInt ≤ 4 * nspot_7.toInt - 4 * nfrom_8.toInt; have k_0 : ((-1) : Int32).toInt = -1 := (by decide +kernel); omega), (by show 0 ≤ ncodes_13.toInt; have k_0 : ((-1) : Int32).toInt = -1 := (by decide +kernel); omega), (by show ncodes_13.toInt ≤ nfrom_8.toInt; have k_0 : ((-1) : Int32).toInt = -1 := (by decide +kernel); omega), (fun h => absurd h (by decide +kernel)), (Or.inl rfl)⟩ (Nat.le_of_ble_eq_true rfl) (Nat.le_of_ble_eq_true rfl) dX12_readCompared_9
  · skip
    have hp_25 := hp_25 rfl
    have ha_27 : (mi 23).toInt - (mi 34).toInt ≤ nfrom_8.toInt - ncodes_13.toInt := ha_27
    have ha_28 : (mi 23).toInt + 1 ≤ nfrom_8.toInt := ha_28
    refine lv_iconst (pc := 4) (v := (-1)) E.1 E.2.1 dX12_readCompared_4 (by decide +kernel) ?_
    refine lv_icmp_ne (pc := 5) (tgt := 10) E.1 E.2.1 dX12_readCompared_5 (by decide) (fun _ => ?_) (fun c_30 => absurd c_30 (mneE (a := 0) (b := (-1)) (by decide +kernel) (by decide +kernel) (by omega)))
    refine lv_aload_n (pc := 10) E.1 E.2.1 dX12_readCompared_10 rfl (lv_at hl3 0 rfl) ?_
    refine lv_bipush (pc := 11) (v := 60) E.1 E.2.1 dX12_readCompared_11 (by decide +kernel) ?_
    refine cm_i (pc := 13) hw16 (rn_M (As := [.int 60]) (rest := []) E hw16 (s_isSign2 l D cI cJ _ M mr (upd (upd (upd (upd (upd (upd (upd mi 22 nspot_7) 23 nfrom_8) 24 ntoken_9) 25 nvalue_10) 34 ncodes_13) 38 nreadFault_14) 39 nreadPlace_15) (va_up (va_up mf 31 gop_11) 32 garg_12) mg 60) (gdV q_1718 q_1720 q_65 q_162 q_1721) hdV_X12_isSign ⟨rfl, rfl⟩ ⟨(Nat.le_of_ble_eq_true rfl), (Nat.le_of_ble_eq_true rfl)⟩ ⟨(Nat.le_of_ble_eq_true rfl), (Nat.le_of_ble_eq_true rfl)⟩ 12 rfl rfl rfl rfl hl3.1 rfl (Nat.le_of_ble_eq_true rfl) dX12_readCompared_13) (fun r_32 u_31 H1 locs hp hw33 => ?_)
    generalize H1 = H at hw33 ⊢
    have hw34 : WD D A s.heap (MW cI cJ M mr (upd (upd (upd (upd (upd (upd (upd mi 22 nspot_7) 23 nfrom_8) 24 ntoken_9) 25 nvalue_10) 34 ncodes_13) 38 nreadFault_14) 39 nreadPlace_15) (va_up (va_up mf 31 gop_11) 32 garg_12) mg) H locs := hw33
    have hp_35 := hp
    rcases hp_35 with ⟨rfl, ha_36, ha_37⟩ | rfl
    · skip
      have ha_36 : ntoken_9.toInt = 4 := ha_36
      have ha_37 : nvalue_10.toInt = (60 : Int32).toInt := ha_37
      rw [show (60 : Int32).toInt = 60 from by decide +kernel] at ha_37
      refine lv_if_ne (pc := 16) (tgt := 43) E.1 E.2.1 dX12_readCompared_16 (by decide) (fun _ => ?_) (fun c_38 => absurd c_38 (mneE (a := 1) (b := 0) (by decide +kernel) (by decide +kernel) (by omega)))
      refine lv_aload_n (pc := 43) E.1 E.2.1 dX12_readCompared_43 rfl (lv_at hl3 0 rfl) ?_
      refine x_get (pc := 44) (T := TX12) (N := 70) (ci := 12) (v := .int nvalue_10) E hw34 inX12 0 25 q_1424 rfl rfl (by decide) rfl rfl dX12_readCompared_44 ?_
      refine lv_bipush (pc := 47) (v := 60) E.1 E.2.1 dX12_readCompared_47 (by decide +kernel) ?_
      refine lv_icmp_ne (pc := 49) (tgt := 57) E.1 E.2.1 dX12_readCompared_49 (by decide) (fun c_39 => absurd (meqE (a := nvalue_10.toInt) (b := 60) rfl (by decide +kernel) (by omega)) c_39) (fun _ => ?_)
      refine lv_bipush (pc := 52) (v := 6) E.1 E.2.1 dX12_readCompared_52 (by decide +kernel) ?_
      refine lv_goto (pc := 54) (tgt := 73) E.1 E.2.1 dX12_readCompared_54 (by decide) ?_
      refine lv_istore_n (pc := 73) (lv' := [(1, .int 6), (0, .ref M)]) E.1 E.2.1 dX12_readCompared_73 rfl hl3 (by decide) rfl (fun ls hl40 => ?_)
      refine lv_aload_n (pc := 74) E.1 E.2.1 dX12_readCompared_74 rfl (lv_at hl40 1 rfl) ?_
      refine cm_v (pc := 75) hw34 (rn_M (As := []) (rest := []) E hw34 (s_reads l D cI cJ _ M mr (upd (upd (upd (upd (upd (upd (upd mi 22 nspot_7) 23 nfrom_8) 24 ntoken_9) 25 nvalue_10) 34 ncodes_13) 38 nreadFault_14) 39 nreadPlace_15) (va_up (va_up mf 31 gop_11) 32 garg_12) mg (by show 0 ≤ nspot_7.toInt; omega) (by show nspot_7.toInt ≤ (mi 21).toInt; omega) (by show (mi 21).toInt ≤ 400; omega) (by show ((mf 26) 153).toInt = 32; omega)) (gdV q_1666 q_1668 q_52 q_162 q_1669) hdV_X12_reads ⟨rfl, rfl⟩ ⟨(Nat.le_of_ble_eq_true rfl), (Nat.le_of_ble_eq_true rfl)⟩ ⟨(Nat.le_of_ble_eq_true rfl), (Nat.le_of_ble_eq_true rfl)⟩ 12 rfl rfl rfl rfl hl40.1 rfl (Nat.le_of_ble_eq_true rfl) dX12_readCompared_75) (fun u_41 H1 locs hp hw43 => ?_)
      obtain ⟨nspot_44, nfrom_45, ntoken_46, nvalue_47⟩ := u_41
      generalize H1 = H at hw43 ⊢
      have hw48 : WD D A s.heap (MW cI cJ M mr (upd (upd (upd (upd (upd (upd (upd mi 22 nspot_44) 23 nfrom_45) 24 ntoken_46) 25 nvalue_47) 34 ncodes_13) 38 nreadFault_14) 39 nreadPlace_15) (va_up (va_up mf 31 gop_11) 32 garg_12) mg) H locs := hw43
      obtain ⟨hp_49, hp_50, hp_51, hp_52, hp_53, hp_54, hp_55⟩ := hp
      have hp_49 : 0 ≤ nfrom_45.toInt := hp_49
      have hp_50 : nfrom_45.toInt ≤ nspot_44.toInt := hp_50
      have hp_51 : nspot_44.toInt ≤ (mi 21).toInt := hp_51
      have hp_52 : 0 ≤ ntoken_46.toInt := hp_52
      have hp_53 : ntoken_46.toInt ≤ 4 := hp_53
      have hp_54 : ntoken_46.toInt ≤ 4 * nspot_44.toInt - 4 * nfrom_45.toInt := hp_54
      have hp_55 : nspot_7.toInt ≤ nfrom_45.toInt := hp_55
      refine lv_aload_n (pc := 78) E.1 E.2.1 dX12_readCompared_78 rfl (lv_at hl40 1 rfl) ?_
      refine cm_i (pc := 79) hw48 (rn_M (As := []) (rest := []) E hw48 (s_readSum l D cI cJ _ M mr (upd (upd (upd (upd (upd (upd (upd mi 22 nspot_44) 23 nfrom_45) 24 ntoken_46) 25 nvalue_47) 34 ncodes_13) 38 nreadFault_14) 39 nreadPlace_15) (va_up (va_up mf 31 gop_11) 32 garg_12) mg (by show 0 ≤ nfrom_45.toInt; omega) (by show nfrom_45.toInt ≤ nspot_44.toInt; omega) (by show nspot_44.toInt ≤ (mi 21).toInt; omega) (by show (mi 21).toInt ≤ 400; omega) (by show 0 ≤ ntoken_46.toInt; omega) (by show ntoken_46.toInt ≤ 4; omega) (by show ntoken_46.toInt ≤ 4 * nspot_44.toInt - 4 * nfrom_45.toInt; omega) (by show ((mf 26) 153).toInt = 32; omega) (by show 0 ≤ ncodes_13.toInt; omega) (by show ncodes_13.toInt ≤ nfrom_45.toInt; omega)) (gdV q_1770 q_1772 q_78 q_162 q_1773) hdV_X12_readSum ⟨rfl, rfl⟩ ⟨(Nat.le_of_ble_eq_true rfl), (Nat.le_of_ble_eq_true rfl)⟩ ⟨(Nat.le_of_ble_eq_true rfl), (Nat.le_of_ble_eq_true rfl)⟩ 12 rfl rfl rfl rfl hl40.1 rfl (Nat.le_of_ble_eq_true rfl) dX12_readCompared_79) (fun r_57 u_56 H1 locs hp hw58 => ?_)
      obtain ⟨nspot_59, nfrom_60, ntoken_61, nvalue_62, gop_63, garg_64, ncodes_65, nreadFault_66, nreadPlace_67⟩ := u_56
      generalize H1 = H at hw58 ⊢
      have hw68 : WD D A s.heap (MW cI cJ M mr (upd (upd (upd (upd (upd (upd (upd mi 22 nspot_59) 23 nfrom_60) 24 ntoken_61) 25 nvalue_62) 34 ncodes_65) 38 nreadFault_66) 39 nreadPlace_67) (va_up (va_up mf 31 gop_63) 32 garg_64) mg) H locs := hw58
      obtain ⟨hp_69, hp_70, hp_71, hp_72, hp_73, hp_74, hp_75, hp_76, hp_77, hp_78⟩ := hp
      have hp_69 : 0 ≤ nfrom_60.toInt := hp_69
      have hp_70 : nfrom_60.toInt ≤ nspot_59.toInt := hp_70
      have hp_71 : nspot_59.toInt ≤ (mi 21).toInt := hp_71
      have hp_72 : 0 ≤ ntoken_61.toInt := hp_72
      have hp_73 : ntoken_61.toInt ≤ 4 := hp_73
      have hp_74 : ntoken_61.toInt ≤ 4 * nspot_59.toInt - 4 * nfrom_60.toInt := hp_74
      have hp_75 : 0 ≤ ncodes_65.toInt := hp_75
      have hp_76 : ncodes_65.toInt ≤ nfrom_60.toInt := hp_76
      have hp_77 : r_57 = 0 → TX gop_11 garg_12 (800 + (ncodes_13.toInt).toNat) gop_63 garg_64 (800 + (ncodes_65.toInt).toNat) := hp_77
      rcases hp_78 with rfl | ⟨rfl, ha_79, ha_80⟩
      · skip
        refine lv_iconst (pc := 82) (v := (-1)) E.1 E.2.1 dX12_readCompared_82 (by decide +kernel) ?_
        refine lv_icmp_ne (pc := 83) (tgt := 88) E.1 E.2.1 dX12_readCompared_83 (by decide) (fun c_81 => absurd (meqE (a := (-1)) (b := (-1)) (by decide +kernel) (by decide +kernel) (by omega)) c_81) (fun _ => ?_)
        refine lv_iconst (pc := 86) (v := (-1)) E.1 E.2.1 dX12_readCompared_86 (by decide +kernel) ?_
        exact em_i (w1 := (fun (u : Int32 × Int32 × Int32 × Int32 × (Nat → Int32) × (Nat → Int32) × Int32 × Int32 × Int32) => (MW cI cJ M mr (upd (upd (upd (upd (upd (upd (upd mi 22 u.1) 23 u.2.1) 24 u.2.2.1) 25 u.2.2.2.1) 34 u.2.2.2.2.2.2.1) 38 u.2.2.2.2.2.2.2.1) 39 u.2.2.2.2.2.2.2.2) (va_up (va_up mf 31 u.2.2.2.2.1) 32 u.2.2.2.2.2.1) mg))) E hr hlk (nspot_59, nfrom_60, ntoken_61, nvalue_62, gop_63, garg_64, ncodes_65, nreadFault_66, nreadPlace_67) hw68 ⟨(by show 0 ≤ nfrom_60.toInt; have k_0 : ((-1) : Int32).toInt = -1 := (by decide +kernel); omega), (by show nfrom_60.toInt ≤ nspot_59.toInt; have k_0 : ((-1) : Int32).toInt = -1 := (by decide +kernel); omega), (by show nspot_59.toInt ≤ (mi 21).toInt; have k_0 : ((-1) : Int32).toInt = -1 := (by decide +kernel); omega), (by show 0 ≤ ntoken_61.toInt; have k_0 : ((-1) : Int32).toInt = -1 := (by decide +kernel); omega), (by show ntoken_61.toInt ≤ 4; have k_0 : ((-1) : Int32).toInt = -1 := (by decide +kernel); omega), (by show ntoken_61.toInt ≤ 4 * nspot_59.toInt - 4 * nfrom_60.toInt; have k_0 : ((-1) : Int32).toInt = -1 := (by decide +kernel); omega), (by show 0 ≤ ncodes_65.toInt; have k_0 : ((-1) : Int32).toInt = -1 := (by decide +kernel); omega), (by show ncodes_65.toInt ≤ nfrom_60.toInt; have k_0 : ((-1) : Int32).toInt = -1 := (by decide +kernel); omega), (fun h => absurd h (by decide +kernel)), (Or.inl rfl)⟩ (Nat.le_of_ble_eq_true rfl) (Nat.le_of_ble_eq_true rfl) dX12_readCompared_87
      · skip
        have hp_77 := hp_77 rfl
        have ha_79 : nfrom_45.toInt - ncodes_13.toInt ≤ nfrom_60.toInt - ncodes_65.toInt := ha_79
        have ha_80 : nfrom_45.toInt + 1 ≤ nfrom_60.toInt := ha_80
        refine lv_iconst (pc := 82) (v := (-1)) E.1 E.2.1 dX12_readCompared_82 (by decide +kernel) ?_
        refine lv_icmp_ne (pc := 83) (tgt := 88) E.1 E.2.1 dX12_readCompared_83 (by decide) (fun _ => ?_) (fun c_82 => absurd c_82 (mneE (a := 0) (b := (-1)) (by decide +kernel) (by decide +kernel) (by omega)))
        refine lv_aload_n (pc := 88) E.1 E.2.1 dX12_readCompared_88 rfl (lv_at hl40 1 rfl) ?_
        refine lv_iload_n (pc := 89) E.1 E.2.1 dX12_readCompared_89 rfl (lv_at hl40 0 rfl) ?_
        refine lv_iconst (pc := 90) (v := 0) E.1 E.2.1 dX12_readCompared_90 (by decide +kernel) ?_
        refine cm_v (pc := 91) hw68 (rn_M (As := [.int 6, .int 0]) (rest := []) E hw68 (s_emits2 l D cI cJ _ M mr (upd (upd (upd (upd (upd (upd (upd mi 22 nspot_59) 23 nfrom_60) 24 ntoken_61) 25 nvalue_62) 34 ncodes_65) 38 nreadFault_66) 39 nreadPlace_67) (va_up (va_up mf 31 gop_63) 32 garg_64) mg 6 0 (by show 0 ≤ ncodes_65.toInt ∧ ncodes_65.toInt ≤ 399; omega)) (gdV q_1786 q_1788 q_82 q_162 q_1789) hdV_X12_emits ⟨rfl, rfl⟩ ⟨(Nat.le_of_ble_eq_true rfl), (Nat.le_of_ble_eq_true rfl)⟩ ⟨(Nat.le_of_ble_eq_true rfl), (Nat.le_of_ble_eq_true rfl)⟩ 12 rfl rfl rfl rfl hl40.1 rfl (Nat.le_of_ble_eq_true rfl) dX12_readCompared_91) (fun u_83 H1 locs hp hw85 => ?_)
        obtain ⟨gop_86, garg_87, ncodes_88⟩ := u_83
        generalize H1 = H at hw85 ⊢
        have hw89 : WD D A s.heap (MW cI cJ M mr (upd (upd (upd (upd (upd (upd (upd mi 22 nspot_59) 23 nfrom_60) 24 ntoken_61) 25 nvalue_62) 34 ncodes_88) 38 nreadFault_66) 39 nreadPlace_67) (va_up (va_up mf 31 gop_86) 32 garg_87) mg) H locs := hw85
        obtain ⟨hp_90, hp_91⟩ := hp
        have hp_90 : ncodes_88.toInt = ncodes_65.toInt + 1 := hp_90
        have hp_91 : EM gop_63 garg_64 gop_86 garg_87 (800 + (ncodes_65.toInt).toNat) (6 : Int32) (0 : Int32) := hp_91
        refine lv_iconst (pc := 94) (v := 0) E.1 E.2.1 dX12_readCompared_94 (by decide +kernel) ?_
        exact em_i (w1 := (fun (u : Int32 × Int32 × Int32 × Int32 × (Nat → Int32) × (Nat → Int32) × Int32 × Int32 × Int32) => (MW cI cJ M mr (upd (upd (upd (upd (upd (upd (upd mi 22 u.1) 23 u.2.1) 24 u.2.2.1) 25 u.2.2.2.1) 34 u.2.2.2.2.2.2.1) 38 u.2.2.2.2.2.2.2.1) 39 u.2.2.2.2.2.2.2.2) (va_up (va_up mf 31 u.2.2.2.2.1) 32 u.2.2.2.2.2.1) mg))) E hr hlk (nspot_59, nfrom_60, ntoken_61, nvalue_62, gop_86, garg_87, ncodes_88, nreadFault_66, nreadPlace_67) hw89 ⟨(by show 0 ≤ nfrom_60.toInt; have k_0 : (0 : Int32).toInt = 0 := (by decide +kernel); omega), (by show nfrom_60.toInt ≤ nspot_59.toInt; have k_0 : (0 : Int32).toInt = 0 := (by decide +kernel); omega), (by show nspot_59.toInt ≤ (mi 21).toInt; have k_0 : (0 : Int32).toInt = 0 := (by decide +kernel); omega), (by show 0 ≤ ntoken_61.toInt; have k_0 : (0 : Int32).toInt = 0 := (by decide +kernel); omega), (by show ntoken_61.toInt ≤ 4; have k_0 : (0 : Int32).toInt = 0 := (by decide +kernel); omega), (by show ntoken_61.toInt ≤ 4 * nspot_59.toInt - 4 * nfrom_60.toInt; have k_0 : (0 : Int32).toInt = 0 := (by decide +kernel); omega), (by show 0 ≤ ncodes_88.toInt; have k_0 : (0 : Int32).toInt = 0 := (by decide +kernel); omega), (by show ncodes_88.toInt ≤ nfrom_60.toInt; have k_0 : (0 : Int32).toInt = 0 := (by decide +kernel); omega), (fun _ => (show TX (mf 31) (mf 32) (800 + ((mi 34).toInt).toNat) gop_86 garg_87 (800 + (ncodes_88.toInt).toNat) from (TX_two hp_25 hp_77 hp_91 ⟨by decide +kernel, by decide +kernel, by decide +kernel, fun h => absurd h (by decide +kernel)⟩ (by omega)))), (Or.inr (⟨rfl, (by show (mi 23).toInt - (mi 34).toInt ≤ nfrom_60.toInt - ncodes_88.toInt; omega), (by show (mi 23).toInt + 1 ≤ nfrom_60.toInt; omega)⟩))⟩ (Nat.le_of_ble_eq_true rfl) (Nat.le_of_ble_eq_true rfl) dX12_readCompared_95
    · skip
      refine lv_if_ne (pc := 16) (tgt := 43) E.1 E.2.1 dX12_readCompared_16 (by decide) (fun c_92 => absurd (meqE (a := 0) (b := 0) (by decide +kernel) (by decide +kernel) (by omega)) c_92) (fun _ => ?_)
      refine lv_aload_n (pc := 19) E.1 E.2.1 dX12_readCompared_19 rfl (lv_at hl3 0 rfl) ?_
      refine lv_bipush (pc := 20) (v := 61) E.1 E.2.1 dX12_readCompared_20 (by decide +kernel) ?_
      refine cm_i (pc := 22) hw34 (rn_M (As := [.int 61]) (rest := []) E hw34 (s_isSign2 l D cI cJ _ M mr (upd (upd (upd (upd (upd (upd (upd mi 22 nspot_7) 23 nfrom_8) 24 ntoken_9) 25 nvalue_10) 34 ncodes_13) 38 nreadFault_14) 39 nreadPlace_15) (va_up (va_up mf 31 gop_11) 32 garg_12) mg 61) (gdV q_1718 q_1720 q_65 q_162 q_1721) hdV_X12_isSign ⟨rfl, rfl⟩ ⟨(Nat.le_of_ble_eq_true rfl), (Nat.le_of_ble_eq_true rfl)⟩ ⟨(Nat.le_of_ble_eq_true rfl), (Nat.le_of_ble_eq_true rfl)⟩ 12 rfl rfl rfl rfl hl3.1 rfl (Nat.le_of_ble_eq_true rfl) dX12_readCompared_22) (fun r_94 u_93 H1 locs hp hw95 => ?_)
      generalize H1 = H at hw95 ⊢
      have hw96 : WD D A s.heap (MW cI cJ M mr (upd (upd (upd (upd (upd (upd (upd mi 22 nspot_7) 23 nfrom_8) 24 ntoken_9) 25 nvalue_10) 34 ncodes_13) 38 nreadFault_14) 39 nreadPlace_15) (va_up (va_up mf 31 gop_11) 32 garg_12) mg) H locs := hw95
      have hp_97 := hp
      rcases hp_97 with ⟨rfl, ha_98, ha_99⟩ | rfl
      · skip
        have ha_98 : ntoken_9.toInt = 4 := ha_98
        have ha_99 : nvalue_10.toInt = (61 : Int32).toInt := ha_99
        rw [show (61 : Int32).toInt = 61 from by decide +kernel] at ha_99
        refine lv_if_ne (pc := 25) (tgt := 43) E.1 E.2.1 dX12_readCompared_25 (by decide) (fun _ => ?_) (fun c_100 => absurd c_100 (mneE (a := 1) (b := 0) (by decide +kernel) (by decide +kernel) (by omega)))
        refine lv_aload_n (pc := 43) E.1 E.2.1 dX12_readCompared_43 rfl (lv_at hl3 0 rfl) ?_
        refine x_get (pc := 44) (T := TX12) (N := 70) (ci := 12) (v := .int nvalue_10) E hw96 inX12 0 25 q_1424 rfl rfl (by decide) rfl rfl dX12_readCompared_44 ?_
        refine lv_bipush (pc := 47) (v := 60) E.1 E.2.1 dX12_readCompared_47 (by decide +kernel) ?_
        refine lv_icmp_ne (pc := 49) (tgt := 57) E.1 E.2.1 dX12_readCompared_49 (by decide) (fun _ => ?_) (fun c_101 => absurd c_101 (mneE (a := nvalue_10.toInt) (b := 60) rfl (by decide +kernel) (by omega)))
        refine lv_aload_n (pc := 57) E.1 E.2.1 dX12_readCompared_57 rfl (lv_at hl3 0 rfl) ?_
        refine x_get (pc := 58) (T := TX12) (N := 70) (ci := 12) (v := .int nvalue_10) E hw96 inX12 0 25 q_1424 rfl rfl (by decide) rfl rfl dX12_readCompared_58 ?_
        refine lv_bipush (pc := 61) (v := 61) E.1 E.2.1 dX12_readCompared_61 (by decide +kernel) ?_
        refine lv_icmp_ne (pc := 63) (tgt := 71) E.1 E.2.1 dX12_readCompared_63 (by decide) (fun c_102 => absurd (meqE (a := nvalue_10.toInt) (b := 61) rfl (by decide +kernel) (by omega)) c_102) (fun _ => ?_)
        refine lv_bipush (pc := 66) (v := 7) E.1 E.2.1 dX12_readCompared_66 (by decide +kernel) ?_
        refine lv_goto (pc := 68) (tgt := 73) E.1 E.2.1 dX12_readCompared_68 (by decide) ?_
        refine lv_istore_n (pc := 73) (lv' := [(1, .int 7), (0, .ref M)]) E.1 E.2.1 dX12_readCompared_73 rfl hl3 (by decide) rfl (fun ls hl103 => ?_)
        refine lv_aload_n (pc := 74) E.1 E.2.1 dX12_readCompared_74 rfl (lv_at hl103 1 rfl) ?_
        refine cm_v (pc := 75) hw96 (rn_M (As := []) (rest := []) E hw96 (s_reads l D cI cJ _ M mr (upd (upd (upd (upd (upd (upd (upd mi 22 nspot_7) 23 nfrom_8) 24 ntoken_9) 25 nvalue_10) 34 ncodes_13) 38 nreadFault_14) 39 nreadPlace_15) (va_up (va_up mf 31 gop_11) 32 garg_12) mg (by show 0 ≤ nspot_7.toInt; omega) (by show nspot_7.toInt ≤ (mi 21).toInt; omega) (by show (mi 21).toInt ≤ 400; omega) (by show ((mf 26) 153).toInt = 32; omega)) (gdV q_1666 q_1668 q_52 q_162 q_1669) hdV_X12_reads ⟨rfl, rfl⟩ ⟨(Nat.le_of_ble_eq_true rfl), (Nat.le_of_ble_eq_true rfl)⟩ ⟨(Nat.le_of_ble_eq_true rfl), (Nat.le_of_ble_eq_true rfl)⟩ 12 rfl rfl rfl rfl hl103.1 rfl (Nat.le_of_ble_eq_true rfl) dX12_readCompared_75) (fun u_104 H1 locs hp hw106 => ?_)
        obtain ⟨nspot_107, nfrom_108, ntoken_109, nvalue_110⟩ := u_104
        generalize H1 = H at hw106 ⊢
        have hw111 : WD D A s.heap (MW cI cJ M mr (upd (upd (upd (upd (upd (upd (upd mi 22 nspot_107) 23 nfrom_108) 24 ntoken_109) 25 nvalue_110) 34 ncodes_13) 38 nreadFault_14) 39 nreadPlace_15) (va_up (va_up mf 31 gop_11) 32 garg_12) mg) H locs := hw106
        obtain ⟨hp_112, hp_113, hp_114, hp_115, hp_116, hp_117, hp_118⟩ := hp
        have hp_112 : 0 ≤ nfrom_108.toInt := hp_112
        have hp_113 : nfrom_108.toInt ≤ nspot_107.toInt := hp_113
        have hp_114 : nspot_107.toInt ≤ (mi 21).toInt := hp_114
        have hp_115 : 0 ≤ ntoken_109.toInt := hp_115
        have hp_116 : ntoken_109.toInt ≤ 4 := hp_116
        have hp_117 : ntoken_109.toInt ≤ 4 * nspot_107.toInt - 4 * nfrom_108.toInt := hp_117
        have hp_118 : nspot_7.toInt ≤ nfrom_108.toInt := hp_118
        refine lv_aload_n (pc := 78) E.1 E.2.1 dX12_readCompared_78 rfl (lv_at hl103 1 rfl) ?_
        refine cm_i (pc := 79) hw111 (rn_M (As := []) (rest := []) E hw111 (s_readSum l D cI cJ _ M mr (upd (upd (upd (upd (upd (upd (upd mi 22 nspot_107) 23 nfrom_108) 24 ntoken_109) 25 nvalue_110) 34 ncodes_13) 38 nreadFault_14) 39 nreadPlace_15) (va_up (va_up mf 31 gop_11) 32 garg_12) mg (by show 0 ≤ nfrom_108.toInt; omega) (by show nfrom_108.toInt ≤ nspot_107.toInt; omega) (by show nspot_107.toInt ≤ (mi 21).toInt; omega) (by show (mi 21).toInt ≤ 400; omega) (by show 0 ≤ ntoken_109.toInt; omega) (by show ntoken_109.toInt ≤ 4; omega) (by show ntoken_109.toInt ≤ 4 * nspot_107.toInt - 4 * nfrom_108.toInt; omega) (by show ((mf 26) 153).toInt = 32; omega) (by show 0 ≤ ncodes_13.toInt; omega) (by show ncodes_13.toInt ≤ nfrom_108.toInt; omega)) (gdV q_1770 q_1772 q_78 q_162 q_1773) hdV_X12_readSum ⟨rfl, rfl⟩ ⟨(Nat.le_of_ble_eq_true rfl), (Nat.le_of_ble_eq_true rfl)⟩ ⟨(Nat.le_of_ble_eq_true rfl), (Nat.le_of_ble_eq_true rfl)⟩ 12 rfl rfl rfl rfl hl103.1 rfl (Nat.le_of_ble_eq_true rfl) dX12_readCompared_79) (fun r_120 u_119 H1 locs hp hw121 => ?_)
        obtain ⟨nspot_122, nfrom_123, ntoken_124, nvalue_125, gop_126, garg_127, ncodes_128, nreadFault_129, nreadPlace_130⟩ := u_119
        generalize H1 = H at hw121 ⊢
        have hw131 : WD D A s.heap (MW cI cJ M mr (upd (upd (upd (upd (upd (upd (upd mi 22 nspot_122) 23 nfrom_123) 24 ntoken_124) 25 nvalue_125) 34 ncodes_128) 38 nreadFault_129) 39 nreadPlace_130) (va_up (va_up mf 31 gop_126) 32 garg_127) mg) H locs := hw121
        obtain ⟨hp_132, hp_133, hp_134, hp_135, hp_136, hp_137, hp_138, hp_139, hp_140, hp_141⟩ := hp
        have hp_132 : 0 ≤ nfrom_123.toInt := hp_132
        have hp_133 : nfrom_123.toInt ≤ nspot_122.toInt := hp_133
        have hp_134 : nspot_122.toInt ≤ (mi 21).toInt := hp_134
        have hp_135 : 0 ≤ ntoken_124.toInt := hp_135
        have hp_136 : ntoken_124.toInt ≤ 4 := hp_136
        have hp_137 : ntoken_124.toInt ≤ 4 * nspot_122.toInt - 4 * nfrom_123.toInt := hp_137
        have hp_138 : 0 ≤ ncodes_128.toInt := hp_138
        have hp_139 : ncodes_128.toInt ≤ nfrom_123.toInt := hp_139
        have hp_140 : r_120 = 0 → TX gop_11 garg_12 (800 + (ncodes_13.toInt).toNat) gop_126 garg_127 (800 + (ncodes_128.toInt).toNat) := hp_140
        rcases hp_141 with rfl | ⟨rfl, ha_142, ha_143⟩
        · skip
          refine lv_iconst (pc := 82) (v := (-1)) E.1 E.2.1 dX12_readCompared_82 (by decide +kernel) ?_
          refine lv_icmp_ne (pc := 83) (tgt := 88) E.1 E.2.1 dX12_readCompared_83 (by decide) (fun c_144 => absurd (meqE (a := (-1)) (b := (-1)) (by decide +kernel) (by decide +kernel) (by omega)) c_144) (fun _ => ?_)
          refine lv_iconst (pc := 86) (v := (-1)) E.1 E.2.1 dX12_readCompared_86 (by decide +kernel) ?_
          exact em_i (w1 := (fun (u : Int32 × Int32 × Int32 × Int32 × (Nat → Int32) × (Nat → Int32) × Int32 × Int32 × Int32) => (MW cI cJ M mr (upd (upd (upd (upd (upd (upd (upd mi 22 u.1) 23 u.2.1) 24 u.2.2.1) 25 u.2.2.2.1) 34 u.2.2.2.2.2.2.1) 38 u.2.2.2.2.2.2.2.1) 39 u.2.2.2.2.2.2.2.2) (va_up (va_up mf 31 u.2.2.2.2.1) 32 u.2.2.2.2.2.1) mg))) E hr hlk (nspot_122, nfrom_123, ntoken_124, nvalue_125, gop_126, garg_127, ncodes_128, nreadFault_129, nreadPlace_130) hw131 ⟨(by show 0 ≤ nfrom_123.toInt; have k_0 : ((-1) : Int32).toInt = -1 := (by decide +kernel); omega), (by show nfrom_123.toInt ≤ nspot_122.toInt; have k_0 : ((-1) : Int32).toInt = -1 := (by decide +kernel); omega), (by show nspot_122.toInt ≤ (mi 21).toInt; have k_0 : ((-1) : Int32).toInt = -1 := (by decide +kernel); omega), (by show 0 ≤ ntoken_124.toInt; have k_0 : ((-1) : Int32).toInt = -1 := (by decide +kernel); omega), (by show ntoken_124.toInt ≤ 4; have k_0 : ((-1) : Int32).toInt = -1 := (by decide +kernel); omega), (by show ntoken_124.toInt ≤ 4 * nspot_122.toInt - 4 * nfrom_123.toInt; have k_0 : ((-1) : Int32).toInt = -1 := (by decide +kernel); omega), (by show 0 ≤ ncodes_128.toInt; have k_0 : ((-1) : Int32).toInt = -1 := (by decide +kernel); omega), (by show ncodes_128.toInt ≤ nfrom_123.toInt; have k_0 : ((-1) : Int32).toInt = -1 := (by decide +kernel); omega), (fun h => absurd h (by decide +kernel)), (Or.inl rfl)⟩ (Nat.le_of_ble_eq_true rfl) (Nat.le_of_ble_eq_true rfl) dX12_readCompared_87
        · skip
          have hp_140 := hp_140 rfl
          have ha_142 : nfrom_108.toInt - ncodes_13.toInt ≤ nfrom_123.toInt - ncodes_128.toInt := ha_142
          have ha_143 : nfrom_108.toInt + 1 ≤ nfrom_123.toInt := ha_143
          refine lv_iconst (pc := 82) (v := (-1)) E.1 E.2.1 dX12_readCompared_82 (by decide +kernel) ?_
          refine lv_icmp_ne (pc := 83) (tgt := 88) E.1 E.2.1 dX12_readCompared_83 (by decide) (fun _ => ?_) (fun c_145 => absurd c_145 (mneE (a := 0) (b := (-1)) (by decide +kernel) (by decide +kernel) (by omega)))
          refine lv_aload_n (pc := 88) E.1 E.2.1 dX12_readCompared_88 rfl (lv_at hl103 1 rfl) ?_
          refine lv_iload_n (pc := 89) E.1 E.2.1 dX12_readCompared_89 rfl (lv_at hl103 0 rfl) ?_
          refine lv_iconst (pc := 90) (v := 0) E.1 E.2.1 dX12_readCompared_90 (by decide +kernel) ?_
          refine cm_v (pc := 91) hw131 (rn_M (As := [.int 7, .int 0]) (rest := []) E hw131 (s_emits2 l D cI cJ _ M mr (upd (upd (upd (upd (upd (upd (upd mi 22 nspot_122) 23 nfrom_123) 24 ntoken_124) 25 nvalue_125) 34 ncodes_128) 38 nreadFault_129) 39 nreadPlace_130) (va_up (va_up mf 31 gop_126) 32 garg_127) mg 7 0 (by show 0 ≤ ncodes_128.toInt ∧ ncodes_128.toInt ≤ 399; omega)) (gdV q_1786 q_1788 q_82 q_162 q_1789) hdV_X12_emits ⟨rfl, rfl⟩ ⟨(Nat.le_of_ble_eq_true rfl), (Nat.le_of_ble_eq_true rfl)⟩ ⟨(Nat.le_of_ble_eq_true rfl), (Nat.le_of_ble_eq_true rfl)⟩ 12 rfl rfl rfl rfl hl103.1 rfl (Nat.le_of_ble_eq_true rfl) dX12_readCompared_91) (fun u_146 H1 locs hp hw148 => ?_)
          obtain ⟨gop_149, garg_150, ncodes_151⟩ := u_146
          generalize H1 = H at hw148 ⊢
          have hw152 : WD D A s.heap (MW cI cJ M mr (upd (upd (upd (upd (upd (upd (upd mi 22 nspot_122) 23 nfrom_123) 24 ntoken_124) 25 nvalue_125) 34 ncodes_151) 38 nreadFault_129) 39 nreadPlace_130) (va_up (va_up mf 31 gop_149) 32 garg_150) mg) H locs := hw148
          obtain ⟨hp_153, hp_154⟩ := hp
          have hp_153 : ncodes_151.toInt = ncodes_128.toInt + 1 := hp_153
          have hp_154 : EM gop_126 garg_127 gop_149 garg_150 (800 + (ncodes_128.toInt).toNat) (7 : Int32) (0 : Int32) := hp_154
          refine lv_iconst (pc := 94) (v := 0) E.1 E.2.1 dX12_readCompared_94 (by decide +kernel) ?_
          exact em_i (w1 := (fun (u : Int32 × Int32 × Int32 × Int32 × (Nat → Int32) × (Nat → Int32) × Int32 × Int32 × Int32) => (MW cI cJ M mr (upd (upd (upd (upd (upd (upd (upd mi 22 u.1) 23 u.2.1) 24 u.2.2.1) 25 u.2.2.2.1) 34 u.2.2.2.2.2.2.1) 38 u.2.2.2.2.2.2.2.1) 39 u.2.2.2.2.2.2.2.2) (va_up (va_up mf 31 u.2.2.2.2.1) 32 u.2.2.2.2.2.1) mg))) E hr hlk (nspot_122, nfrom_123, ntoken_124, nvalue_125, gop_149, garg_150, ncodes_151, nreadFault_129, nreadPlace_130) hw152 ⟨(by show 0 ≤ nfrom_123.toInt; have k_0 : (0 : Int32).toInt = 0 := (by decide +kernel); omega), (by show nfrom_123.toInt ≤ nspot_122.toInt; have k_0 : (0 : Int32).toInt = 0 := (by decide +kernel); omega), (by show nspot_122.toInt ≤ (mi 21).toInt; have k_0 : (0 : Int32).toInt = 0 := (by decide +kernel); omega), (by show 0 ≤ ntoken_124.toInt; have k_0 : (0 : Int32).toInt = 0 := (by decide +kernel); omega), (by show ntoken_124.toInt ≤ 4; have k_0 : (0 : Int32).toInt = 0 := (by decide +kernel); omega), (by show ntoken_124.toInt ≤ 4 * nspot_122.toInt - 4 * nfrom_123.toInt; have k_0 : (0 : Int32).toInt = 0 := (by decide +kernel); omega), (by show 0 ≤ ncodes_151.toInt; have k_0 : (0 : Int32).toInt = 0 := (by decide +kernel); omega), (by show ncodes_151.toInt ≤ nfrom_123.toInt; have k_0 : (0 : Int32).toInt = 0 := (by decide +kernel); omega), (fun _ => (show TX (mf 31) (mf 32) (800 + ((mi 34).toInt).toNat) gop_149 garg_150 (800 + (ncodes_151.toInt).toNat) from (TX_two hp_25 hp_140 hp_154 ⟨by decide +kernel, by decide +kernel, by decide +kernel, fun h => absurd h (by decide +kernel)⟩ (by omega)))), (Or.inr (⟨rfl, (by show (mi 23).toInt - (mi 34).toInt ≤ nfrom_123.toInt - ncodes_151.toInt; omega), (by show (mi 23).toInt + 1 ≤ nfrom_123.toInt; omega)⟩))⟩ (Nat.le_of_ble_eq_true rfl) (Nat.le_of_ble_eq_true rfl) dX12_readCompared_95
      · skip
        refine lv_if_ne (pc := 25) (tgt := 43) E.1 E.2.1 dX12_readCompared_25 (by decide) (fun c_155 => absurd (meqE (a := 0) (b := 0) (by decide +kernel) (by decide +kernel) (by omega)) c_155) (fun _ => ?_)
        refine lv_aload_n (pc := 28) E.1 E.2.1 dX12_readCompared_28 rfl (lv_at hl3 0 rfl) ?_
        refine lv_bipush (pc := 29) (v := 62) E.1 E.2.1 dX12_readCompared_29 (by decide +kernel) ?_
        refine cm_i (pc := 31) hw96 (rn_M (As := [.int 62]) (rest := []) E hw96 (s_isSign2 l D cI cJ _ M mr (upd (upd (upd (upd (upd (upd (upd mi 22 nspot_7) 23 nfrom_8) 24 ntoken_9) 25 nvalue_10) 34 ncodes_13) 38 nreadFault_14) 39 nreadPlace_15) (va_up (va_up mf 31 gop_11) 32 garg_12) mg 62) (gdV q_1718 q_1720 q_65 q_162 q_1721) hdV_X12_isSign ⟨rfl, rfl⟩ ⟨(Nat.le_of_ble_eq_true rfl), (Nat.le_of_ble_eq_true rfl)⟩ ⟨(Nat.le_of_ble_eq_true rfl), (Nat.le_of_ble_eq_true rfl)⟩ 12 rfl rfl rfl rfl hl3.1 rfl (Nat.le_of_ble_eq_true rfl) dX12_readCompared_31) (fun r_157 u_156 H1 locs hp hw158 => ?_)
        generalize H1 = H at hw158 ⊢
        have hw159 : WD D A s.heap (MW cI cJ M mr (upd (upd (upd (upd (upd (upd (upd mi 22 nspot_7) 23 nfrom_8) 24 ntoken_9) 25 nvalue_10) 34 ncodes_13) 38 nreadFault_14) 39 nreadPlace_15) (va_up (va_up mf 31 gop_11) 32 garg_12) mg) H locs := hw158
        have hp_160 := hp
        rcases hp_160 with ⟨rfl, ha_161, ha_162⟩ | rfl
        · skip
          have ha_161 : ntoken_9.toInt = 4 := ha_161
          have ha_162 : nvalue_10.toInt = (62 : Int32).toInt := ha_162
          rw [show (62 : Int32).toInt = 62 from by decide +kernel] at ha_162
          refine lv_if_ne (pc := 34) (tgt := 43) E.1 E.2.1 dX12_readCompared_34 (by decide) (fun _ => ?_) (fun c_163 => absurd c_163 (mneE (a := 1) (b := 0) (by decide +kernel) (by decide +kernel) (by omega)))
          refine lv_aload_n (pc := 43) E.1 E.2.1 dX12_readCompared_43 rfl (lv_at hl3 0 rfl) ?_
          refine x_get (pc := 44) (T := TX12) (N := 70) (ci := 12) (v := .int nvalue_10) E hw159 inX12 0 25 q_1424 rfl rfl (by decide) rfl rfl dX12_readCompared_44 ?_
          refine lv_bipush (pc := 47) (v := 60) E.1 E.2.1 dX12_readCompared_47 (by decide +kernel) ?_
          refine lv_icmp_ne (pc := 49) (tgt := 57) E.1 E.2.1 dX12_readCompared_49 (by decide) (fun _ => ?_) (fun c_164 => absurd c_164 (mneE (a := nvalue_10.toInt) (b := 60) rfl (by decide +kernel) (by omega)))
          refine lv_aload_n (pc := 57) E.1 E.2.1 dX12_readCompared_57 rfl (lv_at hl3 0 rfl) ?_
          refine x_get (pc := 58) (T := TX12) (N := 70) (ci := 12) (v := .int nvalue_10) E hw159 inX12 0 25 q_1424 rfl rfl (by decide) rfl rfl dX12_readCompared_58 ?_
          refine lv_bipush (pc := 61) (v := 61) E.1 E.2.1 dX12_readCompared_61 (by decide +kernel) ?_
          refine lv_icmp_ne (pc := 63) (tgt := 71) E.1 E.2.1 dX12_readCompared_63 (by decide) (fun _ => ?_) (fun c_165 => absurd c_165 (mneE (a := nvalue_10.toInt) (b := 61) rfl (by decide +kernel) (by omega)))
          refine lv_bipush (pc := 71) (v := 8) E.1 E.2.1 dX12_readCompared_71 (by decide +kernel) ?_
          refine lv_istore_n (pc := 73) (lv' := [(1, .int 8), (0, .ref M)]) E.1 E.2.1 dX12_readCompared_73 rfl hl3 (by decide) rfl (fun ls hl166 => ?_)
          refine lv_aload_n (pc := 74) E.1 E.2.1 dX12_readCompared_74 rfl (lv_at hl166 1 rfl) ?_
          refine cm_v (pc := 75) hw159 (rn_M (As := []) (rest := []) E hw159 (s_reads l D cI cJ _ M mr (upd (upd (upd (upd (upd (upd (upd mi 22 nspot_7) 23 nfrom_8) 24 ntoken_9) 25 nvalue_10) 34 ncodes_13) 38 nreadFault_14) 39 nreadPlace_15) (va_up (va_up mf 31 gop_11) 32 garg_12) mg (by show 0 ≤ nspot_7.toInt; omega) (by show nspot_7.toInt ≤ (mi 21).toInt; omega) (by show (mi 21).toInt ≤ 400; omega) (by show ((mf 26) 153).toInt = 32; omega)) (gdV q_1666 q_1668 q_52 q_162 q_1669) hdV_X12_reads ⟨rfl, rfl⟩ ⟨(Nat.le_of_ble_eq_true rfl), (Nat.le_of_ble_eq_true rfl)⟩ ⟨(Nat.le_of_ble_eq_true rfl), (Nat.le_of_ble_eq_true rfl)⟩ 12 rfl rfl rfl rfl hl166.1 rfl (Nat.le_of_ble_eq_true rfl) dX12_readCompared_75) (fun u_167 H1 locs hp hw169 => ?_)
          obtain ⟨nspot_170, nfrom_171, ntoken_172, nvalue_173⟩ := u_167
          generalize H1 = H at hw169 ⊢
          have hw174 : WD D A s.heap (MW cI cJ M mr (upd (upd (upd (upd (upd (upd (upd mi 22 nspot_170) 23 nfrom_171) 24 ntoken_172) 25 nvalue_173) 34 ncodes_13) 38 nreadFault_14) 39 nreadPlace_15) (va_up (va_up mf 31 gop_11) 32 garg_12) mg) H locs := hw169
          obtain ⟨hp_175, hp_176, hp_177, hp_178, hp_179, hp_180, hp_181⟩ := hp
          have hp_175 : 0 ≤ nfrom_171.toInt := hp_175
          have hp_176 : nfrom_171.toInt ≤ nspot_170.toInt := hp_176
          have hp_177 : nspot_170.toInt ≤ (mi 21).toInt := hp_177
          have hp_178 : 0 ≤ ntoken_172.toInt := hp_178
          have hp_179 : ntoken_172.toInt ≤ 4 := hp_179
          have hp_180 : ntoken_172.toInt ≤ 4 * nspot_170.toInt - 4 * nfrom_171.toInt := hp_180
          have hp_181 : nspot_7.toInt ≤ nfrom_171.toInt := hp_181
          refine lv_aload_n (pc := 78) E.1 E.2.1 dX12_readCompared_78 rfl (lv_at hl166 1 rfl) ?_
          refine cm_i (pc := 79) hw174 (rn_M (As := []) (rest := []) E hw174 (s_readSum l D cI cJ _ M mr (upd (upd (upd (upd (upd (upd (upd mi 22 nspot_170) 23 nfrom_171) 24 ntoken_172) 25 nvalue_173) 34 ncodes_13) 38 nreadFault_14) 39 nreadPlace_15) (va_up (va_up mf 31 gop_11) 32 garg_12) mg (by show 0 ≤ nfrom_171.toInt; omega) (by show nfrom_171.toInt ≤ nspot_170.toInt; omega) (by show nspot_170.toInt ≤ (mi 21).toInt; omega) (by show (mi 21).toInt ≤ 400; omega) (by show 0 ≤ ntoken_172.toInt; omega) (by show ntoken_172.toInt ≤ 4; omega) (by show ntoken_172.toInt ≤ 4 * nspot_170.toInt - 4 * nfrom_171.toInt; omega) (by show ((mf 26) 153).toInt = 32; omega) (by show 0 ≤ ncodes_13.toInt; omega) (by show ncodes_13.toInt ≤ nfrom_171.toInt; omega)) (gdV q_1770 q_1772 q_78 q_162 q_1773) hdV_X12_readSum ⟨rfl, rfl⟩ ⟨(Nat.le_of_ble_eq_true rfl), (Nat.le_of_ble_eq_true rfl)⟩ ⟨(Nat.le_of_ble_eq_true rfl), (Nat.le_of_ble_eq_true rfl)⟩ 12 rfl rfl rfl rfl hl166.1 rfl (Nat.le_of_ble_eq_true rfl) dX12_readCompared_79) (fun r_183 u_182 H1 locs hp hw184 => ?_)
          obtain ⟨nspot_185, nfrom_186, ntoken_187, nvalue_188, gop_189, garg_190, ncodes_191, nreadFault_192, nreadPlace_193⟩ := u_182
          generalize H1 = H at hw184 ⊢
          have hw194 : WD D A s.heap (MW cI cJ M mr (upd (upd (upd (upd (upd (upd (upd mi 22 nspot_185) 23 nfrom_186) 24 ntoken_187) 25 nvalue_188) 34 ncodes_191) 38 nreadFault_192) 39 nreadPlace_193) (va_up (va_up mf 31 gop_189) 32 garg_190) mg) H locs := hw184
          obtain ⟨hp_195, hp_196, hp_197, hp_198, hp_199, hp_200, hp_201, hp_202, hp_203, hp_204⟩ := hp
          have hp_195 : 0 ≤ nfrom_186.toInt := hp_195
          have hp_196 : nfrom_186.toInt ≤ nspot_185.toInt := hp_196
          have hp_197 : nspot_185.toInt ≤ (mi 21).toInt := hp_197
          have hp_198 : 0 ≤ ntoken_187.toInt := hp_198
          have hp_199 : ntoken_187.toInt ≤ 4 := hp_199
          have hp_200 : ntoken_187.toInt ≤ 4 * nspot_185.toInt - 4 * nfrom_186.toInt := hp_200
          have hp_201 : 0 ≤ ncodes_191.toInt := hp_201
          have hp_202 : ncodes_191.toInt ≤ nfrom_186.toInt := hp_202
          have hp_203 : r_183 = 0 → TX gop_11 garg_12 (800 + (ncodes_13.toInt).toNat) gop_189 garg_190 (800 + (ncodes_191.toInt).toNat) := hp_203
          rcases hp_204 with rfl | ⟨rfl, ha_205, ha_206⟩
          · skip
            refine lv_iconst (pc := 82) (v := (-1)) E.1 E.2.1 dX12_readCompared_82 (by decide +kernel) ?_
            refine lv_icmp_ne (pc := 83) (tgt := 88) E.1 E.2.1 dX12_readCompared_83 (by decide) (fun c_207 => absurd (meqE (a := (-1)) (b := (-1)) (by decide +kernel) (by decide +kernel) (by omega)) c_207) (fun _ => ?_)
            refine lv_iconst (pc := 86) (v := (-1)) E.1 E.2.1 dX12_readCompared_86 (by decide +kernel) ?_
            exact em_i (w1 := (fun (u : Int32 × Int32 × Int32 × Int32 × (Nat → Int32) × (Nat → Int32) × Int32 × Int32 × Int32) => (MW cI cJ M mr (upd (upd (upd (upd (upd (upd (upd mi 22 u.1) 23 u.2.1) 24 u.2.2.1) 25 u.2.2.2.1) 34 u.2.2.2.2.2.2.1) 38 u.2.2.2.2.2.2.2.1) 39 u.2.2.2.2.2.2.2.2) (va_up (va_up mf 31 u.2.2.2.2.1) 32 u.2.2.2.2.2.1) mg))) E hr hlk (nspot_185, nfrom_186, ntoken_187, nvalue_188, gop_189, garg_190, ncodes_191, nreadFault_192, nreadPlace_193) hw194 ⟨(by show 0 ≤ nfrom_186.toInt; have k_0 : ((-1) : Int32).toInt = -1 := (by decide +kernel); omega), (by show nfrom_186.toInt ≤ nspot_185.toInt; have k_0 : ((-1) : Int32).toInt = -1 := (by decide +kernel); omega), (by show nspot_185.toInt ≤ (mi 21).toInt; have k_0 : ((-1) : Int32).toInt = -1 := (by decide +kernel); omega), (by show 0 ≤ ntoken_187.toInt; have k_0 : ((-1) : Int32).toInt = -1 := (by decide +kernel); omega), (by show ntoken_187.toInt ≤ 4; have k_0 : ((-1) : Int32).toInt = -1 := (by decide +kernel); omega), (by show ntoken_187.toInt ≤ 4 * nspot_185.toInt - 4 * nfrom_186.toInt; have k_0 : ((-1) : Int32).toInt = -1 := (by decide +kernel); omega), (by show 0 ≤ ncodes_191.toInt; have k_0 : ((-1) : Int32).toInt = -1 := (by decide +kernel); omega), (by show ncodes_191.toInt ≤ nfrom_186.toInt; have k_0 : ((-1) : Int32).toInt = -1 := (by decide +kernel); omega), (fun h => absurd h (by decide +kernel)), (Or.inl rfl)⟩ (Nat.le_of_ble_eq_true rfl) (Nat.le_of_ble_eq_true rfl) dX12_readCompared_87
          · skip
            have hp_203 := hp_203 rfl
            have ha_205 : nfrom_171.toInt - ncodes_13.toInt ≤ nfrom_186.toInt - ncodes_191.toInt := ha_205
            have ha_206 : nfrom_171.toInt + 1 ≤ nfrom_186.toInt := ha_206
            refine lv_iconst (pc := 82) (v := (-1)) E.1 E.2.1 dX12_readCompared_82 (by decide +kernel) ?_
            refine lv_icmp_ne (pc := 83) (tgt := 88) E.1 E.2.1 dX12_readCompared_83 (by decide) (fun _ => ?_) (fun c_208 => absurd c_208 (mneE (a := 0) (b := (-1)) (by decide +kernel) (by decide +kernel) (by omega)))
            refine lv_aload_n (pc := 88) E.1 E.2.1 dX12_readCompared_88 rfl (lv_at hl166 1 rfl) ?_
            refine lv_iload_n (pc := 89) E.1 E.2.1 dX12_readCompared_89 rfl (lv_at hl166 0 rfl) ?_
            refine lv_iconst (pc := 90) (v := 0) E.1 E.2.1 dX12_readCompared_90 (by decide +kernel) ?_
            refine cm_v (pc := 91) hw194 (rn_M (As := [.int 8, .int 0]) (rest := []) E hw194 (s_emits2 l D cI cJ _ M mr (upd (upd (upd (upd (upd (upd (upd mi 22 nspot_185) 23 nfrom_186) 24 ntoken_187) 25 nvalue_188) 34 ncodes_191) 38 nreadFault_192) 39 nreadPlace_193) (va_up (va_up mf 31 gop_189) 32 garg_190) mg 8 0 (by show 0 ≤ ncodes_191.toInt ∧ ncodes_191.toInt ≤ 399; omega)) (gdV q_1786 q_1788 q_82 q_162 q_1789) hdV_X12_emits ⟨rfl, rfl⟩ ⟨(Nat.le_of_ble_eq_true rfl), (Nat.le_of_ble_eq_true rfl)⟩ ⟨(Nat.le_of_ble_eq_true rfl), (Nat.le_of_ble_eq_true rfl)⟩ 12 rfl rfl rfl rfl hl166.1 rfl (Nat.le_of_ble_eq_true rfl) dX12_readCompared_91) (fun u_209 H1 locs hp hw211 => ?_)
            obtain ⟨gop_212, garg_213, ncodes_214⟩ := u_209
            generalize H1 = H at hw211 ⊢
            have hw215 : WD D A s.heap (MW cI cJ M mr (upd (upd (upd (upd (upd (upd (upd mi 22 nspot_185) 23 nfrom_186) 24 ntoken_187) 25 nvalue_188) 34 ncodes_214) 38 nreadFault_192) 39 nreadPlace_193) (va_up (va_up mf 31 gop_212) 32 garg_213) mg) H locs := hw211
            obtain ⟨hp_216, hp_217⟩ := hp
            have hp_216 : ncodes_214.toInt = ncodes_191.toInt + 1 := hp_216
            have hp_217 : EM gop_189 garg_190 gop_212 garg_213 (800 + (ncodes_191.toInt).toNat) (8 : Int32) (0 : Int32) := hp_217
            refine lv_iconst (pc := 94) (v := 0) E.1 E.2.1 dX12_readCompared_94 (by decide +kernel) ?_
            exact em_i (w1 := (fun (u : Int32 × Int32 × Int32 × Int32 × (Nat → Int32) × (Nat → Int32) × Int32 × Int32 × Int32) => (MW cI cJ M mr (upd (upd (upd (upd (upd (upd (upd mi 22 u.1) 23 u.2.1) 24 u.2.2.1) 25 u.2.2.2.1) 34 u.2.2.2.2.2.2.1) 38 u.2.2.2.2.2.2.2.1) 39 u.2.2.2.2.2.2.2.2) (va_up (va_up mf 31 u.2.2.2.2.1) 32 u.2.2.2.2.2.1) mg))) E hr hlk (nspot_185, nfrom_186, ntoken_187, nvalue_188, gop_212, garg_213, ncodes_214, nreadFault_192, nreadPlace_193) hw215 ⟨(by show 0 ≤ nfrom_186.toInt; have k_0 : (0 : Int32).toInt = 0 := (by decide +kernel); omega), (by show nfrom_186.toInt ≤ nspot_185.toInt; have k_0 : (0 : Int32).toInt = 0 := (by decide +kernel); omega), (by show nspot_185.toInt ≤ (mi 21).toInt; have k_0 : (0 : Int32).toInt = 0 := (by decide +kernel); omega), (by show 0 ≤ ntoken_187.toInt; have k_0 : (0 : Int32).toInt = 0 := (by decide +kernel); omega), (by show ntoken_187.toInt ≤ 4; have k_0 : (0 : Int32).toInt = 0 := (by decide +kernel); omega), (by show ntoken_187.toInt ≤ 4 * nspot_185.toInt - 4 * nfrom_186.toInt; have k_0 : (0 : Int32).toInt = 0 := (by decide +kernel); omega), (by show 0 ≤ ncodes_214.toInt; have k_0 : (0 : Int32).toInt = 0 := (by decide +kernel); omega), (by show ncodes_214.toInt ≤ nfrom_186.toInt; have k_0 : (0 : Int32).toInt = 0 := (by decide +kernel); omega), (fun _ => (show TX (mf 31) (mf 32) (800 + ((mi 34).toInt).toNat) gop_212 garg_213 (800 + (ncodes_214.toInt).toNat) from (TX_two hp_25 hp_203 hp_217 ⟨by decide +kernel, by decide +kernel, by decide +kernel, fun h => absurd h (by decide +kernel)⟩ (by omega)))), (Or.inr (⟨rfl, (by show (mi 23).toInt - (mi 34).toInt ≤ nfrom_186.toInt - ncodes_214.toInt; omega), (by show (mi 23).toInt + 1 ≤ nfrom_186.toInt; omega)⟩))⟩ (Nat.le_of_ble_eq_true rfl) (Nat.le_of_ble_eq_true rfl) dX12_readCompared_95
        · skip
          refine lv_if_ne (pc := 34) (tgt := 43) E.1 E.2.1 dX12_readCompared_34 (by decide) (fun c_218 => absurd (meqE (a := 0) (b := 0) (by decide +kernel) (by decide +kernel) (by omega)) c_218) (fun _ => ?_)
          refine lv_aload_n (pc := 37) E.1 E.2.1 dX12_readCompared_37 rfl (lv_at hl3 0 rfl) ?_
          refine lv_iconst (pc := 38) (v := 1) E.1 E.2.1 dX12_readCompared_38 (by decide +kernel) ?_
          refine cm_i (pc := 39) hw159 (rn_M (As := [.int 1]) (rest := []) E hw159 (s_errs2 l D cI cJ _ M mr (upd (upd (upd (upd (upd (upd (upd mi 22 nspot_7) 23 nfrom_8) 24 ntoken_9) 25 nvalue_10) 34 ncodes_13) 38 nreadFault_14) 39 nreadPlace_15) (va_up (va_up mf 31 gop_11) 32 garg_12) mg 1) (gdV q_1698 q_1700 q_60 q_162 q_1701) hdV_X12_errs ⟨rfl, rfl⟩ ⟨(Nat.le_of_ble_eq_true rfl), (Nat.le_of_ble_eq_true rfl)⟩ ⟨(Nat.le_of_ble_eq_true rfl), (Nat.le_of_ble_eq_true rfl)⟩ 12 rfl rfl rfl rfl hl3.1 rfl (Nat.le_of_ble_eq_true rfl) dX12_readCompared_39) (fun r_220 u_219 H1 locs hp hw221 => ?_)
          obtain ⟨nreadFault_222, nreadPlace_223⟩ := u_219
          generalize H1 = H at hw221 ⊢
          have hw224 : WD D A s.heap (MW cI cJ M mr (upd (upd (upd (upd (upd (upd (upd mi 22 nspot_7) 23 nfrom_8) 24 ntoken_9) 25 nvalue_10) 34 ncodes_13) 38 nreadFault_222) 39 nreadPlace_223) (va_up (va_up mf 31 gop_11) 32 garg_12) mg) H locs := hw221
          have hp_225 := hp
          rcases hp_225 with rfl
          · skip
            exact em_i (w1 := (fun (u : Int32 × Int32 × Int32 × Int32 × (Nat → Int32) × (Nat → Int32) × Int32 × Int32 × Int32) => (MW cI cJ M mr (upd (upd (upd (upd (upd (upd (upd mi 22 u.1) 23 u.2.1) 24 u.2.2.1) 25 u.2.2.2.1) 34 u.2.2.2.2.2.2.1) 38 u.2.2.2.2.2.2.2.1) 39 u.2.2.2.2.2.2.2.2) (va_up (va_up mf 31 u.2.2.2.2.1) 32 u.2.2.2.2.2.1) mg))) E hr hlk (nspot_7, nfrom_8, ntoken_9, nvalue_10, gop_11, garg_12, ncodes_13, nreadFault_222, nreadPlace_223) hw224 ⟨(by show 0 ≤ nfrom_8.toInt; have k_0 : ((-1) : Int32).toInt = -1 := (by decide +kernel); omega), (by show nfrom_8.toInt ≤ nspot_7.toInt; have k_0 : ((-1) : Int32).toInt = -1 := (by decide +kernel); omega), (by show nspot_7.toInt ≤ (mi 21).toInt; have k_0 : ((-1) : Int32).toInt = -1 := (by decide +kernel); omega), (by show 0 ≤ ntoken_9.toInt; have k_0 : ((-1) : Int32).toInt = -1 := (by decide +kernel); omega), (by show ntoken_9.toInt ≤ 4; have k_0 : ((-1) : Int32).toInt = -1 := (by decide +kernel); omega), (by show ntoken_9.toInt ≤ 4 * nspot_7.toInt - 4 * nfrom_8.toInt; have k_0 : ((-1) : Int32).toInt = -1 := (by decide +kernel); omega), (by show 0 ≤ ncodes_13.toInt; have k_0 : ((-1) : Int32).toInt = -1 := (by decide +kernel); omega), (by show ncodes_13.toInt ≤ nfrom_8.toInt; have k_0 : ((-1) : Int32).toInt = -1 := (by decide +kernel); omega), (fun h => absurd h (by decide +kernel)), (Or.inl rfl)⟩ (Nat.le_of_ble_eq_true rfl) (Nat.le_of_ble_eq_true rfl) dX12_readCompared_42

set_option maxHeartbeats 4000000 in
set_option maxRecDepth 100000 in
theorem s_waits2 (l : Launch) (D : va_G) (cI cJ : ClassId) (sz M : Nat) (mr : Nat → Nat) (mi : Nat → Int32) (mf : Nat → Nat → Int32) (mg : Nat → Nat → Int64) (z_what : Int32) (h0 : 0 ≤ (mi 37).toInt ∧ (mi 37).toInt ≤ 39) : Met l yX12_waits (Cond.code yX12_waits cX12_waits 2 none :: GW) ({ frames := 1, cells := 0, slots := 0, locals := 40 } : Room) (va_Pc [.ref M, .int z_what] (PW D cI cJ sz (MW cI cJ M mr mi mf mg) xT)) (va_Qv (fun (u : (Nat → Int32) × Int32) => (u.2.toInt = (mi 37).toInt + 1) ∧ (u.1 (((mi 37).toInt).toNat) = z_what ∧ ∀ j : Nat, j < ((mi 37).toInt).toNat → u.1 j = (mf 36) j)) (fun u => QW D cI cJ (va_A (MW cI cJ M mr mi mf mg) sz) ((fun (u : (Nat → Int32) × Int32) => (MW cI cJ M mr (upd mi 37 u.2) (va_up mf 36 u.1) mg)) u)) (va_A (MW cI cJ M mr mi mf mg) sz)) 0 0 (va_A (MW cI cJ M mr mi mf mg) sz) := by
  refine mk_met (y := yX12_waits) (bytes := cX12_waits) (maxL := 2) (avs := [.ref M, .int z_what]) (WS := (MW cI cJ M mr mi mf mg)) (Qf := fun A => va_Qv (fun (u : (Nat → Int32) × Int32) => (u.2.toInt = (mi 37).toInt + 1) ∧ (u.1 (((mi 37).toInt).toNat) = z_what ∧ ∀ j : Nat, j < ((mi 37).toInt).toNat → u.1 j = (mf 36) j)) (fun u => QW D cI cJ A ((fun (u : (Nat → Int32) × Int32) => (MW cI cJ M mr (upd mi 37 u.2) (va_up mf 36 u.1) mg)) u)) A) (by decide) (Nat.le_of_ble_eq_true rfl) ?_
  intro p e s m below meth c A ls E hr hlk hnm hX hw1 hl2
  have hl3 : lv_has ls 2 [(0, .ref M), (1, .int z_what)] := hl2
  refine lv_aload_n (pc := 0) E.1 E.2.1 dX12_waits_0 rfl (lv_at hl3 0 rfl) ?_
  refine x_get (pc := 1) (T := TX12) (N := 70) (ci := 12) (v := .ref (mr 36)) E hw1 inX12 0 36 q_1435 rfl rfl (by decide) rfl rfl dX12_waits_1 ?_
  refine lv_aload_n (pc := 4) E.1 E.2.1 dX12_waits_4 rfl (lv_at hl3 0 rfl) ?_
  refine x_get (pc := 5) (T := TX12) (N := 70) (ci := 12) (v := .int (mi 37)) E hw1 inX12 0 37 q_1436 rfl rfl (by decide) rfl rfl dX12_waits_5 ?_
  refine lv_iload_n (pc := 8) E.1 E.2.1 dX12_waits_8 rfl (lv_at hl3 1 rfl) ?_
  refine x_iastG (pc := 9) (f := (mf 36)) (wf := fun g => (MW cI cJ M mr mi (va_up mf 36 g) mg)) E hw1 20 rfl (inbE (a := (mi 37).toInt) rfl (by omega)) (fun _ => rfl) dX12_waits_9 (fun g_4 H locs eg_4 hw5 => ?_)
  refine lv_aload_n (pc := 10) E.1 E.2.1 dX12_waits_10 rfl (lv_at hl3 0 rfl) ?_
  refine lv_aload_n (pc := 11) E.1 E.2.1 dX12_waits_11 rfl (lv_at hl3 0 rfl) ?_
  refine x_get (pc := 12) (T := TX12) (N := 70) (ci := 12) (v := .int (mi 37)) E hw5 inX12 0 37 q_1436 rfl rfl (by decide) rfl rfl dX12_waits_12 ?_
  refine lv_iconst (pc := 15) (v := 1) E.1 E.2.1 dX12_waits_15 (by decide +kernel) ?_
  refine lv_iadd (pc := 16) E.1 E.2.1 dX12_waits_16 ?_
  refine lv_topi (fun v_6 ev_6 => ?_)
  have hv_6 : v_6.toInt = (mi 37).toInt + 1 := by rw [ev_6]; exact addE rfl (by decide +kernel) (by omega)
  refine x_put (pc := 17) (T := TX12) (N := 70) (ci := 12) (ws' := (MW cI cJ M mr (upd mi 37 v_6) (va_up mf 36 g_4) mg)) E hw5 inX12 tyX12_ok nmX12 0 37 q_1436 rfl rfl (by decide) rfl rfl rfl rfl (Nat.le_of_ble_eq_true rfl) rfl dX12_waits_17 (fun H locs hw7 => ?_)
  exact em_v (w1 := (fun (u : (Nat → Int32) × Int32) => (MW cI cJ M mr (upd mi 37 u.2) (va_up mf 36 u.1) mg))) E hr hlk (g_4, v_6) hw7 ⟨(by show v_6.toInt = (mi 37).toInt + 1; omega), (show g_4 (((mi 37).toInt).toNat) = z_what ∧ ∀ j : Nat, j < ((mi 37).toInt).toNat → g_4 j = (mf 36) j from (pd_wt eg_4 (by omega)))⟩ (Nat.le_of_ble_eq_true rfl) (Nat.le_of_ble_eq_true rfl) dX12_waits_20

set_option maxHeartbeats 4000000 in
set_option maxRecDepth 100000 in
theorem s_settles9 (l : Launch) (D : va_G) (cI cJ : ClassId) (sz M : Nat) (mr : Nat → Nat) (mi : Nat → Int32) (mf : Nat → Nat → Int32) (mg : Nat → Nat → Int64)  (h0 : 0 ≤ (mi 37).toInt ∧ (mi 37).toInt ≤ 40) (h1 : 0 ≤ (mi 34).toInt) (h2 : (mi 34).toInt + (mi 37).toInt ≤ 400) (h3 : 0 ≤ (mi 35).toInt ∧ (mi 35).toInt ≤ 8) : Met l yX12_settles (Cond.code yX12_settles cX12_settles 2 none :: GW) ({ frames := 2, cells := 0, slots := 0, locals := 62 } : Room) (va_Pc [.ref M, .int 9] (PW D cI cJ sz (MW cI cJ M mr mi mf mg) xT)) (va_Qv (fun (u : Int32 × (Nat → Int32) × (Nat → Int32) × Int32 × Int32) => (0 ≤ u.1.toInt) ∧ (u.1.toInt ≤ (mi 37).toInt) ∧ (u.2.2.2.1.toInt + u.1.toInt = (mi 34).toInt + (mi 37).toInt) ∧ (0 ≤ u.2.2.2.1.toInt) ∧ (u.2.2.2.2.toInt = (mi 35).toInt - (mi 37).toInt + u.1.toInt) ∧ (SE (9 : Int32) (mf 36) ((mi 37).toInt).toNat (mf 31) (mf 32) (800 + ((mi 34).toInt).toNat) (u.1.toInt).toNat u.2.1 u.2.2.1 (800 + (u.2.2.2.1.toInt).toNat)) ∧ (NT (9 : Int32) (mf 36) (u.1.toInt).toNat)) (fun u => QW D cI cJ (va_A (MW cI cJ M mr mi mf mg) sz) ((fun (u : Int32 × (Nat → Int32) × (Nat → Int32) × Int32 × Int32) => (MW cI cJ M mr (upd (upd (upd mi 37 u.1) 34 u.2.2.2.1) 35 u.2.2.2.2) (va_up (va_up mf 31 u.2.1) 32 u.2.2.1) mg)) u)) (va_A (MW cI cJ M mr mi mf mg) sz)) 0 0 (va_A (MW cI cJ M mr mi mf mg) sz) := by
  refine mk_met (y := yX12_settles) (bytes := cX12_settles) (maxL := 2) (avs := [.ref M, .int 9]) (WS := (MW cI cJ M mr mi mf mg)) (Qf := fun A => va_Qv (fun (u : Int32 × (Nat → Int32) × (Nat → Int32) × Int32 × Int32) => (0 ≤ u.1.toInt) ∧ (u.1.toInt ≤ (mi 37).toInt) ∧ (u.2.2.2.1.toInt + u.1.toInt = (mi 34).toInt + (mi 37).toInt) ∧ (0 ≤ u.2.2.2.1.toInt) ∧ (u.2.2.2.2.toInt = (mi 35).toInt - (mi 37).toInt + u.1.toInt) ∧ (SE (9 : Int32) (mf 36) ((mi 37).toInt).toNat (mf 31) (mf 32) (800 + ((mi 34).toInt).toNat) (u.1.toInt).toNat u.2.1 u.2.2.1 (800 + (u.2.2.2.1.toInt).toNat)) ∧ (NT (9 : Int32) (mf 36) (u.1.toInt).toNat)) (fun u => QW D cI cJ A ((fun (u : Int32 × (Nat → Int32) × (Nat → Int32) × Int32 × Int32) => (MW cI cJ M mr (upd (upd (upd mi 37 u.1) 34 u.2.2.2.1) 35 u.2.2.2.2) (va_up (va_up mf 31 u.2.1) 32 u.2.2.1) mg)) u)) A) (by decide) (Nat.le_of_ble_eq_true rfl) ?_
  intro p e s m below meth c A ls E hr hlk hnm hX hw1 hl2
  have hl3 : lv_has ls 2 [(0, .ref M), (1, .int 9)] := hl2
  have loop_4 : ∀ (k : Nat) (x_5 : Int32) (x_6 : Int32) (x_7 : Int32) (g_8 : Nat → Int32) (g_9 : Nat → Int32) (H : Heap) (locs : List Loc) (ls : Array Slot), (0 ≤ x_5.toInt) ∧ (x_5.toInt ≤ (mi 37).toInt) ∧ (x_6.toInt + x_5.toInt = (mi 34).toInt + (mi 37).toInt) ∧ (0 ≤ x_6.toInt) ∧ (x_7.toInt = (mi 35).toInt - (mi 37).toInt + x_5.toInt) ∧ (SE (9 : Int32) (mf 36) ((mi 37).toInt).toNat (mf 31) (mf 32) (800 + ((mi 34).toInt).toNat) (x_5.toInt).toNat g_8 g_9 (800 + (x_6.toInt).toNat)) → x_5.toInt < (k : Int) → WD D A s.heap (MW cI cJ M mr (upd (upd (upd mi 34 x_6) 35 x_7) 37 x_5) (va_up (va_up mf 31 g_8) 32 g_9) mg) H locs → lv_has ls 2 [(0, .ref M), (1, .int 9)] → W p l e ({ frames := 2, cells := 0, slots := 0, locals := 62 } : Room) s m ([.ref M, .int 9] : List Value).toArray below meth c H locs 0 0 (MQ below (va_Qv (fun (u : Int32 × (Nat → Int32) × (Nat → Int32) × Int32 × Int32) => (0 ≤ u.1.toInt) ∧ (u.1.toInt ≤ (mi 37).toInt) ∧ (u.2.2.2.1.toInt + u.1.toInt = (mi 34).toInt + (mi 37).toInt) ∧ (0 ≤ u.2.2.2.1.toInt) ∧ (u.2.2.2.2.toInt = (mi 35).toInt - (mi 37).toInt + u.1.toInt) ∧ (SE (9 : Int32) (mf 36) ((mi 37).toInt).toNat (mf 31) (mf 32) (800 + ((mi 34).toInt).toNat) (u.1.toInt).toNat u.2.1 u.2.2.1 (800 + (u.2.2.2.1.toInt).toNat)) ∧ (NT (9 : Int32) (mf 36) (u.1.toInt).toNat)) (fun u => QW D cI cJ A ((fun (u : Int32 × (Nat → Int32) × (Nat → Int32) × Int32 × Int32) => (MW cI cJ M mr (upd (upd (upd mi 37 u.1) 34 u.2.2.2.1) 35 u.2.2.2.2) (va_up (va_up mf 31 u.2.1) 32 u.2.2.1) mg)) u)) A) ([.ref M, .int 9] : List Value).toArray s 0 0 A) (F0 m 0 ls []) := by
    intro k
    induction k with
    | zero =>
      intro x_5 x_6 x_7 g_8 g_9 _ _ _ hinv hm
      obtain ⟨hi_9_0, hi_9_1, hi_9_2, hi_9_3, hi_9_4, hi_9_5⟩ := hinv
      exact absurd hm (by omega)
    | succ k ih_10 =>
      intro x_5 x_6 x_7 g_8 g_9 H locs ls hinv hm hw11 hl12
      obtain ⟨hi_9_0, hi_9_1, hi_9_2, hi_9_3, hi_9_4, hi_9_5⟩ := hinv
      refine lv_aload_n (pc := 0) E.1 E.2.1 dX12_settles_0 rfl (lv_at hl12 0 rfl) ?_
      refine x_get (pc := 1) (T := TX12) (N := 70) (ci := 12) (v := .int x_5) E hw11 inX12 0 37 q_1436 rfl rfl (by decide) rfl rfl dX12_settles_1 ?_
      refine lv_if_le (pc := 4) (tgt := 57) E.1 E.2.1 dX12_settles_4 (by decide) (fun c_13 => ?_) (fun c_13 => ?_)
      · skip
        have hc_13 := leE (a := x_5.toInt) (b := 0) rfl (by decide +kernel) c_13
        exact em_v (w1 := (fun (u : Int32 × (Nat → Int32) × (Nat → Int32) × Int32 × Int32) => (MW cI cJ M mr (upd (upd (upd mi 37 u.1) 34 u.2.2.2.1) 35 u.2.2.2.2) (va_up (va_up mf 31 u.2.1) 32 u.2.2.1) mg))) E hr hlk (x_5, g_8, g_9, x_6, x_7) hw11 ⟨(by show 0 ≤ x_5.toInt; omega), (by show x_5.toInt ≤ (mi 37).toInt; omega), (by show x_6.toInt + x_5.toInt = (mi 34).toInt + (mi 37).toInt; omega), (by show 0 ≤ x_6.toInt; omega), (by show x_7.toInt = (mi 35).toInt - (mi 37).toInt + x_5.toInt; omega), (show SE (9 : Int32) (mf 36) ((mi 37).toInt).toNat (mf 31) (mf 32) (800 + ((mi 34).toInt).toNat) (x_5.toInt).toNat g_8 g_9 (800 + (x_6.toInt).toNat) from hi_9_5), (show NT (9 : Int32) (mf 36) (x_5.toInt).toNat from (Or.inl (by omega)))⟩ (Nat.le_of_ble_eq_true rfl) (Nat.le_of_ble_eq_true rfl) dX12_settles_57
      · skip
        have hc_13 := nleE (a := x_5.toInt) (b := 0) rfl (by decide +kernel) c_13
        refine lv_aload_n (pc := 7) E.1 E.2.1 dX12_settles_7 rfl (lv_at hl12 0 rfl) ?_
        refine x_get (pc := 8) (T := TX12) (N := 70) (ci := 12) (v := .ref (mr 36)) E hw11 inX12 0 36 q_1435 rfl rfl (by decide) rfl rfl dX12_settles_8 ?_
        refine lv_aload_n (pc := 11) E.1 E.2.1 dX12_settles_11 rfl (lv_at hl12 0 rfl) ?_
        refine x_get (pc := 12) (T := TX12) (N := 70) (ci := 12) (v := .int x_5) E hw11 inX12 0 37 q_1436 rfl rfl (by decide) rfl rfl dX12_settles_12 ?_
        refine lv_iconst (pc := 15) (v := 1) E.1 E.2.1 dX12_settles_15 (by decide +kernel) ?_
        refine lv_isub (pc := 16) E.1 E.2.1 dX12_settles_16 ?_
        refine lv_topi (fun v_14 ev_14 => ?_)
        have hv_14 : v_14.toInt = x_5.toInt - 1 := by rw [ev_14]; exact subE rfl (by decide +kernel) (by omega)
        refine x_iald (pc := 17) (f := (mf 36)) E hw11 20 rfl (inbE (a := v_14.toInt) rfl (by omega)) dX12_settles_17 ?_
        refine lv_topi (fun v_15 ev_15 => ?_)
        refine lv_iload_n (pc := 18) E.1 E.2.1 dX12_settles_18 rfl (lv_at hl12 1 rfl) ?_
        refine lv_icmp_ne (pc := 19) (tgt := 57) E.1 E.2.1 dX12_settles_19 (by decide) (fun c_16 => ?_) (fun c_16 => ?_)
        · skip
          have hc_16 := neE (a := v_15.toInt) (b := 9) rfl (by decide +kernel) c_16
          exact em_v (w1 := (fun (u : Int32 × (Nat → Int32) × (Nat → Int32) × Int32 × Int32) => (MW cI cJ M mr (upd (upd (upd mi 37 u.1) 34 u.2.2.2.1) 35 u.2.2.2.2) (va_up (va_up mf 31 u.2.1) 32 u.2.2.1) mg))) E hr hlk (x_5, g_8, g_9, x_6, x_7) hw11 ⟨(by show 0 ≤ x_5.toInt; omega), (by show x_5.toInt ≤ (mi 37).toInt; omega), (by show x_6.toInt + x_5.toInt = (mi 34).toInt + (mi 37).toInt; omega), (by show 0 ≤ x_6.toInt; omega), (by show x_7.toInt = (mi 35).toInt - (mi 37).toInt + x_5.toInt; omega), (show SE (9 : Int32) (mf 36) ((mi 37).toInt).toNat (mf 31) (mf 32) (800 + ((mi 34).toInt).toNat) (x_5.toInt).toNat g_8 g_9 (800 + (x_6.toInt).toNat) from hi_9_5), (show NT (9 : Int32) (mf 36) (x_5.toInt).toNat from (Or.inr (pd_ne ev_15 (by have k_9 : (9 : Int32).toInt = 9 := (by decide +kernel); omega) (by omega))))⟩ (Nat.le_of_ble_eq_true rfl) (Nat.le_of_ble_eq_true rfl) dX12_settles_57
        · skip
          have hc_16 := eqE (a := v_15.toInt) (b := 9) rfl (by decide +kernel) c_16
          refine lv_aload_n (pc := 22) E.1 E.2.1 dX12_settles_22 rfl (lv_at hl12 0 rfl) ?_
          refine lv_aload_n (pc := 23) E.1 E.2.1 dX12_settles_23 rfl (lv_at hl12 0 rfl) ?_
          refine x_get (pc := 24) (T := TX12) (N := 70) (ci := 12) (v := .int x_5) E hw11 inX12 0 37 q_1436 rfl rfl (by decide) rfl rfl dX12_settles_24 ?_
          refine lv_iconst (pc := 27) (v := 1) E.1 E.2.1 dX12_settles_27 (by decide +kernel) ?_
          refine lv_isub (pc := 28) E.1 E.2.1 dX12_settles_28 ?_
          refine lv_topi (fun v_17 ev_17 => ?_)
          have hv_17 : v_17.toInt = x_5.toInt - 1 := by rw [ev_17]; exact subE rfl (by decide +kernel) (by omega)
          refine x_put (pc := 29) (T := TX12) (N := 70) (ci := 12) (ws' := (MW cI cJ M mr (upd (upd (upd mi 34 x_6) 35 x_7) 37 v_17) (va_up (va_up mf 31 g_8) 32 g_9) mg)) E hw11 inX12 tyX12_ok nmX12 0 37 q_1436 rfl rfl (by decide) rfl rfl rfl rfl (Nat.le_of_ble_eq_true rfl) rfl dX12_settles_29 (fun H locs hw18 => ?_)
          refine lv_aload_n (pc := 32) E.1 E.2.1 dX12_settles_32 rfl (lv_at hl12 0 rfl) ?_
          refine lv_iload_n (pc := 33) E.1 E.2.1 dX12_settles_33 rfl (lv_at hl12 1 rfl) ?_
          refine lv_iconst (pc := 34) (v := 0) E.1 E.2.1 dX12_settles_34 (by decide +kernel) ?_
          refine cm_v (pc := 35) hw18 (rn_M (As := [.int 9, .int 0]) (rest := []) E hw18 (s_emits2 l D cI cJ _ M mr (upd (upd (upd mi 34 x_6) 35 x_7) 37 v_17) (va_up (va_up mf 31 g_8) 32 g_9) mg 9 0 (by show 0 ≤ x_6.toInt ∧ x_6.toInt ≤ 399; omega)) (gdV q_1786 q_1788 q_82 q_162 q_1789) hdV_X12_emits ⟨rfl, rfl⟩ ⟨(Nat.le_of_ble_eq_true rfl), (Nat.le_of_ble_eq_true rfl)⟩ ⟨(Nat.le_of_ble_eq_true rfl), (Nat.le_of_ble_eq_true rfl)⟩ 12 rfl rfl rfl rfl hl12.1 rfl (Nat.le_of_ble_eq_true rfl) dX12_settles_35) (fun u_19 H1 locs hp hw21 => ?_)
          obtain ⟨gop_22, garg_23, ncodes_24⟩ := u_19
          generalize H1 = H at hw21 ⊢
          have hw25 : WD D A s.heap (MW cI cJ M mr (upd (upd (upd mi 34 ncodes_24) 35 x_7) 37 v_17) (va_up (va_up mf 31 gop_22) 32 garg_23) mg) H locs := hw21
          obtain ⟨hp_26, hp_27⟩ := hp
          have hp_26 : ncodes_24.toInt = x_6.toInt + 1 := hp_26
          have hp_27 : EM g_8 g_9 gop_22 garg_23 (800 + (x_6.toInt).toNat) (9 : Int32) (0 : Int32) := hp_27
          refine lv_iload_n (pc := 38) E.1 E.2.1 dX12_settles_38 rfl (lv_at hl12 1 rfl) ?_
          refine lv_bipush (pc := 39) (v := 9) E.1 E.2.1 dX12_settles_39 (by decide +kernel) ?_
          refine lv_icmp_ne (pc := 41) (tgt := 0) E.1 E.2.1 dX12_settles_41 (by decide) (fun c_28 => absurd (meqE (a := 9) (b := 9) (by decide +kernel) (by decide +kernel) (by omega)) c_28) (fun _ => ?_)
          refine lv_aload_n (pc := 44) E.1 E.2.1 dX12_settles_44 rfl (lv_at hl12 0 rfl) ?_
          refine lv_aload_n (pc := 45) E.1 E.2.1 dX12_settles_45 rfl (lv_at hl12 0 rfl) ?_
          refine x_get (pc := 46) (T := TX12) (N := 70) (ci := 12) (v := .int x_7) E hw25 inX12 0 35 q_1434 rfl rfl (by decide) rfl rfl dX12_settles_46 ?_
          refine lv_iconst (pc := 49) (v := 1) E.1 E.2.1 dX12_settles_49 (by decide +kernel) ?_
          refine lv_isub (pc := 50) E.1 E.2.1 dX12_settles_50 ?_
          refine lv_topi (fun v_29 ev_29 => ?_)
          have hv_29 : v_29.toInt = x_7.toInt - 1 := by rw [ev_29]; exact subE rfl (by decide +kernel) (by omega)
          refine x_put (pc := 51) (T := TX12) (N := 70) (ci := 12) (ws' := (MW cI cJ M mr (upd (upd (upd mi 34 ncodes_24) 35 v_29) 37 v_17) (va_up (va_up mf 31 gop_22) 32 garg_23) mg)) E hw25 inX12 tyX12_ok nmX12 0 35 q_1434 rfl rfl (by decide) rfl rfl rfl rfl (Nat.le_of_ble_eq_true rfl) rfl dX12_settles_51 (fun H locs hw30 => ?_)
          refine lv_goto (pc := 54) (tgt := 0) E.1 E.2.1 dX12_settles_54 (by decide) ?_
          exact ih_10 v_17 ncodes_24 v_29 gop_22 garg_23 _ _ _ ⟨(by show 0 ≤ v_17.toInt; omega), (by show v_17.toInt ≤ (mi 37).toInt; omega), (by show ncodes_24.toInt + v_17.toInt = (mi 34).toInt + (mi 37).toInt; omega), (by show 0 ≤ ncodes_24.toInt; omega), (by show v_29.toInt = (mi 35).toInt - (mi 37).toInt + v_17.toInt; omega), (SE_step hi_9_5 (pd_eq ev_15 (by have k_9 : (9 : Int32).toInt = 9 := (by decide +kernel); omega) (by omega)) (by omega) hp_27 (by omega))⟩ (by omega) hw30 (lv_sub hl12 [0, 1] rfl)
  exact loop_4 (Int.toNat ((mi 37).toInt) + 1) (mi 37) (mi 34) (mi 35) (mf 31) (mf 32) _ _ _ ⟨(by show 0 ≤ (mi 37).toInt; omega), (by show (mi 37).toInt ≤ (mi 37).toInt; omega), (by show (mi 34).toInt + (mi 37).toInt = (mi 34).toInt + (mi 37).toInt; omega), (by show 0 ≤ (mi 34).toInt; omega), (by show (mi 35).toInt = (mi 35).toInt - (mi 37).toInt + (mi 37).toInt; omega), SE_nil⟩ (by omega) hw1 (lv_sub hl3 [0, 1] rfl)

set_option maxHeartbeats 4000000 in
set_option maxRecDepth 100000 in
theorem s_settles10 (l : Launch) (D : va_G) (cI cJ : ClassId) (sz M : Nat) (mr : Nat → Nat) (mi : Nat → Int32) (mf : Nat → Nat → Int32) (mg : Nat → Nat → Int64)  (h0 : 0 ≤ (mi 37).toInt ∧ (mi 37).toInt ≤ 40) (h1 : 0 ≤ (mi 34).toInt) (h2 : (mi 34).toInt + (mi 37).toInt ≤ 400) (h3 : 0 ≤ (mi 35).toInt ∧ (mi 35).toInt ≤ 8) : Met l yX12_settles (Cond.code yX12_settles cX12_settles 2 none :: GW) ({ frames := 2, cells := 0, slots := 0, locals := 62 } : Room) (va_Pc [.ref M, .int 10] (PW D cI cJ sz (MW cI cJ M mr mi mf mg) xT)) (va_Qv (fun (u : Int32 × (Nat → Int32) × (Nat → Int32) × Int32) => (0 ≤ u.1.toInt) ∧ (u.1.toInt ≤ (mi 37).toInt) ∧ (u.2.2.2.toInt + u.1.toInt = (mi 34).toInt + (mi 37).toInt) ∧ (0 ≤ u.2.2.2.toInt) ∧ (SE (10 : Int32) (mf 36) ((mi 37).toInt).toNat (mf 31) (mf 32) (800 + ((mi 34).toInt).toNat) (u.1.toInt).toNat u.2.1 u.2.2.1 (800 + (u.2.2.2.toInt).toNat)) ∧ (NT (10 : Int32) (mf 36) (u.1.toInt).toNat)) (fun u => QW D cI cJ (va_A (MW cI cJ M mr mi mf mg) sz) ((fun (u : Int32 × (Nat → Int32) × (Nat → Int32) × Int32) => (MW cI cJ M mr (upd (upd mi 37 u.1) 34 u.2.2.2) (va_up (va_up mf 31 u.2.1) 32 u.2.2.1) mg)) u)) (va_A (MW cI cJ M mr mi mf mg) sz)) 0 0 (va_A (MW cI cJ M mr mi mf mg) sz) := by
  refine mk_met (y := yX12_settles) (bytes := cX12_settles) (maxL := 2) (avs := [.ref M, .int 10]) (WS := (MW cI cJ M mr mi mf mg)) (Qf := fun A => va_Qv (fun (u : Int32 × (Nat → Int32) × (Nat → Int32) × Int32) => (0 ≤ u.1.toInt) ∧ (u.1.toInt ≤ (mi 37).toInt) ∧ (u.2.2.2.toInt + u.1.toInt = (mi 34).toInt + (mi 37).toInt) ∧ (0 ≤ u.2.2.2.toInt) ∧ (SE (10 : Int32) (mf 36) ((mi 37).toInt).toNat (mf 31) (mf 32) (800 + ((mi 34).toInt).toNat) (u.1.toInt).toNat u.2.1 u.2.2.1 (800 + (u.2.2.2.toInt).toNat)) ∧ (NT (10 : Int32) (mf 36) (u.1.toInt).toNat)) (fun u => QW D cI cJ A ((fun (u : Int32 × (Nat → Int32) × (Nat → Int32) × Int32) => (MW cI cJ M mr (upd (upd mi 37 u.1) 34 u.2.2.2) (va_up (va_up mf 31 u.2.1) 32 u.2.2.1) mg)) u)) A) (by decide) (Nat.le_of_ble_eq_true rfl) ?_
  intro p e s m below meth c A ls E hr hlk hnm hX hw1 hl2
  have hl3 : lv_has ls 2 [(0, .ref M), (1, .int 10)] := hl2
  have loop_4 : ∀ (k : Nat) (x_5 : Int32) (x_6 : Int32) (g_7 : Nat → Int32) (g_8 : Nat → Int32) (H : Heap) (locs : List Loc) (ls : Array Slot), (0 ≤ x_5.toInt) ∧ (x_5.toInt ≤ (mi 37).toInt) ∧ (x_6.toInt + x_5.toInt = (mi 34).toInt + (mi 37).toInt) ∧ (0 ≤ x_6.toInt) ∧ (SE (10 : Int32) (mf 36) ((mi 37).toInt).toNat (mf 31) (mf 32) (800 + ((mi 34).toInt).toNat) (x_5.toInt).toNat g_7 g_8 (800 + (x_6.toInt).toNat)) → x_5.toInt < (k : Int) → WD D A s.heap (MW cI cJ M mr (upd (upd mi 34 x_6) 37 x_5) (va_up (va_up mf 31 g_7) 32 g_8) mg) H locs → lv_has ls 2 [(0, .ref M), (1, .int 10)] → W p l e ({ frames := 2, cells := 0, slots := 0, locals := 62 } : Room) s m ([.ref M, .int 10] : List Value).toArray below meth c H locs 0 0 (MQ below (va_Qv (fun (u : Int32 × (Nat → Int32) × (Nat → Int32) × Int32) => (0 ≤ u.1.toInt) ∧ (u.1.toInt ≤ (mi 37).toInt) ∧ (u.2.2.2.toInt + u.1.toInt = (mi 34).toInt + (mi 37).toInt) ∧ (0 ≤ u.2.2.2.toInt) ∧ (SE (10 : Int32) (mf 36) ((mi 37).toInt).toNat (mf 31) (mf 32) (800 + ((mi 34).toInt).toNat) (u.1.toInt).toNat u.2.1 u.2.2.1 (800 + (u.2.2.2.toInt).toNat)) ∧ (NT (10 : Int32) (mf 36) (u.1.toInt).toNat)) (fun u => QW D cI cJ A ((fun (u : Int32 × (Nat → Int32) × (Nat → Int32) × Int32) => (MW cI cJ M mr (upd (upd mi 37 u.1) 34 u.2.2.2) (va_up (va_up mf 31 u.2.1) 32 u.2.2.1) mg)) u)) A) ([.ref M, .int 10] : List Value).toArray s 0 0 A) (F0 m 0 ls []) := by
    intro k
    induction k with
    | zero =>
      intro x_5 x_6 g_7 g_8 _ _ _ hinv hm
      obtain ⟨hi_8_0, hi_8_1, hi_8_2, hi_8_3, hi_8_4⟩ := hinv
      exact absurd hm (by omega)
    | succ k ih_9 =>
      intro x_5 x_6 g_7 g_8 H locs ls hinv hm hw10 hl11
      obtain ⟨hi_8_0, hi_8_1, hi_8_2, hi_8_3, hi_8_4⟩ := hinv
      refine lv_aload_n (pc := 0) E.1 E.2.1 dX12_settles_0 rfl (lv_at hl11 0 rfl) ?_
      refine x_get (pc := 1) (T := TX12) (N := 70) (ci := 12) (v := .int x_5) E hw10 inX12 0 37 q_1436 rfl rfl (by decide) rfl rfl dX12_settles_1 ?_
      refine lv_if_le (pc := 4) (tgt := 57) E.1 E.2.1 dX12_settles_4 (by decide) (fun c_12 => ?_) (fun c_12 => ?_)
      · skip
        have hc_12 := leE (a := x_5.toInt) (b := 0) rfl (by decide +kernel) c_12
        exact em_v (w1 := (fun (u : Int32 × (Nat → Int32) × (Nat → Int32) × Int32) => (MW cI cJ M mr (upd (upd mi 37 u.1) 34 u.2.2.2) (va_up (va_up mf 31 u.2.1) 32 u.2.2.1) mg))) E hr hlk (x_5, g_7, g_8, x_6) hw10 ⟨(by show 0 ≤ x_5.toInt; omega), (by show x_5.toInt ≤ (mi 37).toInt; omega), (by show x_6.toInt + x_5.toInt = (mi 34).toInt + (mi 37).toInt; omega), (by show 0 ≤ x_6.toInt; omega), (show SE (10 : Int32) (mf 36) ((mi 37).toInt).toNat (mf 31) (mf 32) (800 + ((mi 34).toInt).toNat) (x_5.toInt).toNat g_7 g_8 (800 + (x_6.toInt).toNat) from hi_8_4), (show NT (10 : Int32) (mf 36) (x_5.toInt).toNat from (Or.inl (by omega)))⟩ (Nat.le_of_ble_eq_true rfl) (Nat.le_of_ble_eq_true rfl) dX12_settles_57
      · skip
        have hc_12 := nleE (a := x_5.toInt) (b := 0) rfl (by decide +kernel) c_12
        refine lv_aload_n (pc := 7) E.1 E.2.1 dX12_settles_7 rfl (lv_at hl11 0 rfl) ?_
        refine x_get (pc := 8) (T := TX12) (N := 70) (ci := 12) (v := .ref (mr 36)) E hw10 inX12 0 36 q_1435 rfl rfl (by decide) rfl rfl dX12_settles_8 ?_
        refine lv_aload_n (pc := 11) E.1 E.2.1 dX12_settles_11 rfl (lv_at hl11 0 rfl) ?_
        refine x_get (pc := 12) (T := TX12) (N := 70) (ci := 12) (v := .int x_5) E hw10 inX12 0 37 q_1436 rfl rfl (by decide) rfl rfl dX12_settles_12 ?_
        refine lv_iconst (pc := 15) (v := 1) E.1 E.2.1 dX12_settles_15 (by decide +kernel) ?_
        refine lv_isub (pc := 16) E.1 E.2.1 dX12_settles_16 ?_
        refine lv_topi (fun v_13 ev_13 => ?_)
        have hv_13 : v_13.toInt = x_5.toInt - 1 := by rw [ev_13]; exact subE rfl (by decide +kernel) (by omega)
        refine x_iald (pc := 17) (f := (mf 36)) E hw10 20 rfl (inbE (a := v_13.toInt) rfl (by omega)) dX12_settles_17 ?_
        refine lv_topi (fun v_14 ev_14 => ?_)
        refine lv_iload_n (pc := 18) E.1 E.2.1 dX12_settles_18 rfl (lv_at hl11 1 rfl) ?_
        refine lv_icmp_ne (pc := 19) (tgt := 57) E.1 E.2.1 dX12_settles_19 (by decide) (fun c_15 => ?_) (fun c_15 => ?_)
        · skip
          have hc_15 := neE (a := v_14.toInt) (b := 10) rfl (by decide +kernel) c_15
          exact em_v (w1 := (fun (u : Int32 × (Nat → Int32) × (Nat → Int32) × Int32) => (MW cI cJ M mr (upd (upd mi 37 u.1) 34 u.2.2.2) (va_up (va_up mf 31 u.2.1) 32 u.2.2.1) mg))) E hr hlk (x_5, g_7, g_8, x_6) hw10 ⟨(by show 0 ≤ x_5.toInt; omega), (by show x_5.toInt ≤ (mi 37).toInt; omega), (by show x_6.toInt + x_5.toInt = (mi 34).toInt + (mi 37).toInt; omega), (by show 0 ≤ x_6.toInt; omega), (show SE (10 : Int32) (mf 36) ((mi 37).toInt).toNat (mf 31) (mf 32) (800 + ((mi 34).toInt).toNat) (x_5.toInt).toNat g_7 g_8 (800 + (x_6.toInt).toNat) from hi_8_4), (show NT (10 : Int32) (mf 36) (x_5.toInt).toNat from (Or.inr (pd_ne ev_14 (by have k_9 : (10 : Int32).toInt = 10 := (by decide +kernel); omega) (by omega))))⟩ (Nat.le_of_ble_eq_true rfl) (Nat.le_of_ble_eq_true rfl) dX12_settles_57
        · skip
          have hc_15 := eqE (a := v_14.toInt) (b := 10) rfl (by decide +kernel) c_15
          refine lv_aload_n (pc := 22) E.1 E.2.1 dX12_settles_22 rfl (lv_at hl11 0 rfl) ?_
          refine lv_aload_n (pc := 23) E.1 E.2.1 dX12_settles_23 rfl (lv_at hl11 0 rfl) ?_
          refine x_get (pc := 24) (T := TX12) (N := 70) (ci := 12) (v := .int x_5) E hw10 inX12 0 37 q_1436 rfl rfl (by decide) rfl rfl dX12_settles_24 ?_
          refine lv_iconst (pc := 27) (v := 1) E.1 E.2.1 dX12_settles_27 (by decide +kernel) ?_
          refine lv_isub (pc := 28) E.1 E.2.1 dX12_settles_28 ?_
          refine lv_topi (fun v_16 ev_16 => ?_)
          have hv_16 : v_16.toInt = x_5.toInt - 1 := by rw [ev_16]; exact subE rfl (by decide +kernel) (by omega)
          refine x_put (pc := 29) (T := TX12) (N := 70) (ci := 12) (ws' := (MW cI cJ M mr (upd (upd mi 34 x_6) 37 v_16) (va_up (va_up mf 31 g_7) 32 g_8) mg)) E hw10 inX12 tyX12_ok nmX12 0 37 q_1436 rfl rfl (by decide) rfl rfl rfl rfl (Nat.le_of_ble_eq_true rfl) rfl dX12_settles_29 (fun H locs hw17 => ?_)
          refine lv_aload_n (pc := 32) E.1 E.2.1 dX12_settles_32 rfl (lv_at hl11 0 rfl) ?_
          refine lv_iload_n (pc := 33) E.1 E.2.1 dX12_settles_33 rfl (lv_at hl11 1 rfl) ?_
          refine lv_iconst (pc := 34) (v := 0) E.1 E.2.1 dX12_settles_34 (by decide +kernel) ?_
          refine cm_v (pc := 35) hw17 (rn_M (As := [.int 10, .int 0]) (rest := []) E hw17 (s_emits2 l D cI cJ _ M mr (upd (upd mi 34 x_6) 37 v_16) (va_up (va_up mf 31 g_7) 32 g_8) mg 10 0 (by show 0 ≤ x_6.toInt ∧ x_6.toInt ≤ 399; omega)) (gdV q_1786 q_1788 q_82 q_162 q_1789) hdV_X12_emits ⟨rfl, rfl⟩ ⟨(Nat.le_of_ble_eq_true rfl), (Nat.le_of_ble_eq_true rfl)⟩ ⟨(Nat.le_of_ble_eq_true rfl), (Nat.le_of_ble_eq_true rfl)⟩ 12 rfl rfl rfl rfl hl11.1 rfl (Nat.le_of_ble_eq_true rfl) dX12_settles_35) (fun u_18 H1 locs hp hw20 => ?_)
          obtain ⟨gop_21, garg_22, ncodes_23⟩ := u_18
          generalize H1 = H at hw20 ⊢
          have hw24 : WD D A s.heap (MW cI cJ M mr (upd (upd mi 34 ncodes_23) 37 v_16) (va_up (va_up mf 31 gop_21) 32 garg_22) mg) H locs := hw20
          obtain ⟨hp_25, hp_26⟩ := hp
          have hp_25 : ncodes_23.toInt = x_6.toInt + 1 := hp_25
          have hp_26 : EM g_7 g_8 gop_21 garg_22 (800 + (x_6.toInt).toNat) (10 : Int32) (0 : Int32) := hp_26
          refine lv_iload_n (pc := 38) E.1 E.2.1 dX12_settles_38 rfl (lv_at hl11 1 rfl) ?_
          refine lv_bipush (pc := 39) (v := 9) E.1 E.2.1 dX12_settles_39 (by decide +kernel) ?_
          refine lv_icmp_ne (pc := 41) (tgt := 0) E.1 E.2.1 dX12_settles_41 (by decide) (fun _ => ?_) (fun c_27 => absurd c_27 (mneE (a := 10) (b := 9) (by decide +kernel) (by decide +kernel) (by omega)))
          exact ih_9 v_16 ncodes_23 gop_21 garg_22 _ _ _ ⟨(by show 0 ≤ v_16.toInt; omega), (by show v_16.toInt ≤ (mi 37).toInt; omega), (by show ncodes_23.toInt + v_16.toInt = (mi 34).toInt + (mi 37).toInt; omega), (by show 0 ≤ ncodes_23.toInt; omega), (SE_step hi_8_4 (pd_eq ev_14 (by have k_9 : (10 : Int32).toInt = 10 := (by decide +kernel); omega) (by omega)) (by omega) hp_26 (by omega))⟩ (by omega) hw24 (lv_sub hl11 [0, 1] rfl)
  exact loop_4 (Int.toNat ((mi 37).toInt) + 1) (mi 37) (mi 34) (mf 31) (mf 32) _ _ _ ⟨(by show 0 ≤ (mi 37).toInt; omega), (by show (mi 37).toInt ≤ (mi 37).toInt; omega), (by show (mi 34).toInt + (mi 37).toInt = (mi 34).toInt + (mi 37).toInt; omega), (by show 0 ≤ (mi 34).toInt; omega), SE_nil⟩ (by omega) hw1 (lv_sub hl3 [0, 1] rfl)

set_option maxHeartbeats 4000000 in
set_option maxRecDepth 100000 in
theorem s_settles11 (l : Launch) (D : va_G) (cI cJ : ClassId) (sz M : Nat) (mr : Nat → Nat) (mi : Nat → Int32) (mf : Nat → Nat → Int32) (mg : Nat → Nat → Int64)  (h0 : 0 ≤ (mi 37).toInt ∧ (mi 37).toInt ≤ 40) (h1 : 0 ≤ (mi 34).toInt) (h2 : (mi 34).toInt + (mi 37).toInt ≤ 400) (h3 : 0 ≤ (mi 35).toInt ∧ (mi 35).toInt ≤ 8) : Met l yX12_settles (Cond.code yX12_settles cX12_settles 2 none :: GW) ({ frames := 2, cells := 0, slots := 0, locals := 62 } : Room) (va_Pc [.ref M, .int 11] (PW D cI cJ sz (MW cI cJ M mr mi mf mg) xT)) (va_Qv (fun (u : Int32 × (Nat → Int32) × (Nat → Int32) × Int32) => (0 ≤ u.1.toInt) ∧ (u.1.toInt ≤ (mi 37).toInt) ∧ (u.2.2.2.toInt + u.1.toInt = (mi 34).toInt + (mi 37).toInt) ∧ (0 ≤ u.2.2.2.toInt) ∧ (SE (11 : Int32) (mf 36) ((mi 37).toInt).toNat (mf 31) (mf 32) (800 + ((mi 34).toInt).toNat) (u.1.toInt).toNat u.2.1 u.2.2.1 (800 + (u.2.2.2.toInt).toNat)) ∧ (NT (11 : Int32) (mf 36) (u.1.toInt).toNat)) (fun u => QW D cI cJ (va_A (MW cI cJ M mr mi mf mg) sz) ((fun (u : Int32 × (Nat → Int32) × (Nat → Int32) × Int32) => (MW cI cJ M mr (upd (upd mi 37 u.1) 34 u.2.2.2) (va_up (va_up mf 31 u.2.1) 32 u.2.2.1) mg)) u)) (va_A (MW cI cJ M mr mi mf mg) sz)) 0 0 (va_A (MW cI cJ M mr mi mf mg) sz) := by
  refine mk_met (y := yX12_settles) (bytes := cX12_settles) (maxL := 2) (avs := [.ref M, .int 11]) (WS := (MW cI cJ M mr mi mf mg)) (Qf := fun A => va_Qv (fun (u : Int32 × (Nat → Int32) × (Nat → Int32) × Int32) => (0 ≤ u.1.toInt) ∧ (u.1.toInt ≤ (mi 37).toInt) ∧ (u.2.2.2.toInt + u.1.toInt = (mi 34).toInt + (mi 37).toInt) ∧ (0 ≤ u.2.2.2.toInt) ∧ (SE (11 : Int32) (mf 36) ((mi 37).toInt).toNat (mf 31) (mf 32) (800 + ((mi 34).toInt).toNat) (u.1.toInt).toNat u.2.1 u.2.2.1 (800 + (u.2.2.2.toInt).toNat)) ∧ (NT (11 : Int32) (mf 36) (u.1.toInt).toNat)) (fun u => QW D cI cJ A ((fun (u : Int32 × (Nat → Int32) × (Nat → Int32) × Int32) => (MW cI cJ M mr (upd (upd mi 37 u.1) 34 u.2.2.2) (va_up (va_up mf 31 u.2.1) 32 u.2.2.1) mg)) u)) A) (by decide) (Nat.le_of_ble_eq_true rfl) ?_
  intro p e s m below meth c A ls E hr hlk hnm hX hw1 hl2
  have hl3 : lv_has ls 2 [(0, .ref M), (1, .int 11)] := hl2
  have loop_4 : ∀ (k : Nat) (x_5 : Int32) (x_6 : Int32) (g_7 : Nat → Int32) (g_8 : Nat → Int32) (H : Heap) (locs : List Loc) (ls : Array Slot), (0 ≤ x_5.toInt) ∧ (x_5.toInt ≤ (mi 37).toInt) ∧ (x_6.toInt + x_5.toInt = (mi 34).toInt + (mi 37).toInt) ∧ (0 ≤ x_6.toInt) ∧ (SE (11 : Int32) (mf 36) ((mi 37).toInt).toNat (mf 31) (mf 32) (800 + ((mi 34).toInt).toNat) (x_5.toInt).toNat g_7 g_8 (800 + (x_6.toInt).toNat)) → x_5.toInt < (k : Int) → WD D A s.heap (MW cI cJ M mr (upd (upd mi 34 x_6) 37 x_5) (va_up (va_up mf 31 g_7) 32 g_8) mg) H locs → lv_has ls 2 [(0, .ref M), (1, .int 11)] → W p l e ({ frames := 2, cells := 0, slots := 0, locals := 62 } : Room) s m ([.ref M, .int 11] : List Value).toArray below meth c H locs 0 0 (MQ below (va_Qv (fun (u : Int32 × (Nat → Int32) × (Nat → Int32) × Int32) => (0 ≤ u.1.toInt) ∧ (u.1.toInt ≤ (mi 37).toInt) ∧ (u.2.2.2.toInt + u.1.toInt = (mi 34).toInt + (mi 37).toInt) ∧ (0 ≤ u.2.2.2.toInt) ∧ (SE (11 : Int32) (mf 36) ((mi 37).toInt).toNat (mf 31) (mf 32) (800 + ((mi 34).toInt).toNat) (u.1.toInt).toNat u.2.1 u.2.2.1 (800 + (u.2.2.2.toInt).toNat)) ∧ (NT (11 : Int32) (mf 36) (u.1.toInt).toNat)) (fun u => QW D cI cJ A ((fun (u : Int32 × (Nat → Int32) × (Nat → Int32) × Int32) => (MW cI cJ M mr (upd (upd mi 37 u.1) 34 u.2.2.2) (va_up (va_up mf 31 u.2.1) 32 u.2.2.1) mg)) u)) A) ([.ref M, .int 11] : List Value).toArray s 0 0 A) (F0 m 0 ls []) := by
    intro k
    induction k with
    | zero =>
      intro x_5 x_6 g_7 g_8 _ _ _ hinv hm
      obtain ⟨hi_8_0, hi_8_1, hi_8_2, hi_8_3, hi_8_4⟩ := hinv
      exact absurd hm (by omega)
    | succ k ih_9 =>
      intro x_5 x_6 g_7 g_8 H locs ls hinv hm hw10 hl11
      obtain ⟨hi_8_0, hi_8_1, hi_8_2, hi_8_3, hi_8_4⟩ := hinv
      refine lv_aload_n (pc := 0) E.1 E.2.1 dX12_settles_0 rfl (lv_at hl11 0 rfl) ?_
      refine x_get (pc := 1) (T := TX12) (N := 70) (ci := 12) (v := .int x_5) E hw10 inX12 0 37 q_1436 rfl rfl (by decide) rfl rfl dX12_settles_1 ?_
      refine lv_if_le (pc := 4) (tgt := 57) E.1 E.2.1 dX12_settles_4 (by decide) (fun c_12 => ?_) (fun c_12 => ?_)
      · skip
        have hc_12 := leE (a := x_5.toInt) (b := 0) rfl (by decide +kernel) c_12
        exact em_v (w1 := (fun (u : Int32 × (Nat → Int32) × (Nat → Int32) × Int32) => (MW cI cJ M mr (upd (upd mi 37 u.1) 34 u.2.2.2) (va_up (va_up mf 31 u.2.1) 32 u.2.2.1) mg))) E hr hlk (x_5, g_7, g_8, x_6) hw10 ⟨(by show 0 ≤ x_5.toInt; omega), (by show x_5.toInt ≤ (mi 37).toInt; omega), (by show x_6.toInt + x_5.toInt = (mi 34).toInt + (mi 37).toInt; omega), (by show 0 ≤ x_6.toInt; omega), (show SE (11 : Int32) (mf 36) ((mi 37).toInt).toNat (mf 31) (mf 32) (800 + ((mi 34).toInt).toNat) (x_5.toInt).toNat g_7 g_8 (800 + (x_6.toInt).toNat) from hi_8_4), (show NT (11 : Int32) (mf 36) (x_5.toInt).toNat from (Or.inl (by omega)))⟩ (Nat.le_of_ble_eq_true rfl) (Nat.le_of_ble_eq_true rfl) dX12_settles_57
      · skip
        have hc_12 := nleE (a := x_5.toInt) (b := 0) rfl (by decide +kernel) c_12
        refine lv_aload_n (pc := 7) E.1 E.2.1 dX12_settles_7 rfl (lv_at hl11 0 rfl) ?_
        refine x_get (pc := 8) (T := TX12) (N := 70) (ci := 12) (v := .ref (mr 36)) E hw10 inX12 0 36 q_1435 rfl rfl (by decide) rfl rfl dX12_settles_8 ?_
        refine lv_aload_n (pc := 11) E.1 E.2.1 dX12_settles_11 rfl (lv_at hl11 0 rfl) ?_
        refine x_get (pc := 12) (T := TX12) (N := 70) (ci := 12) (v := .int x_5) E hw10 inX12 0 37 q_1436 rfl rfl (by decide) rfl rfl dX12_settles_12 ?_
        refine lv_iconst (pc := 15) (v := 1) E.1 E.2.1 dX12_settles_15 (by decide +kernel) ?_
        refine lv_isub (pc := 16) E.1 E.2.1 dX12_settles_16 ?_
        refine lv_topi (fun v_13 ev_13 => ?_)
        have hv_13 : v_13.toInt = x_5.toInt - 1 := by rw [ev_13]; exact subE rfl (by decide +kernel) (by omega)
        refine x_iald (pc := 17) (f := (mf 36)) E hw10 20 rfl (inbE (a := v_13.toInt) rfl (by omega)) dX12_settles_17 ?_
        refine lv_topi (fun v_14 ev_14 => ?_)
        refine lv_iload_n (pc := 18) E.1 E.2.1 dX12_settles_18 rfl (lv_at hl11 1 rfl) ?_
        refine lv_icmp_ne (pc := 19) (tgt := 57) E.1 E.2.1 dX12_settles_19 (by decide) (fun c_15 => ?_) (fun c_15 => ?_)
        · skip
          have hc_15 := neE (a := v_14.toInt) (b := 11) rfl (by decide +kernel) c_15
          exact em_v (w1 := (fun (u : Int32 × (Nat → Int32) × (Nat → Int32) × Int32) => (MW cI cJ M mr (upd (upd mi 37 u.1) 34 u.2.2.2) (va_up (va_up mf 31 u.2.1) 32 u.2.2.1) mg))) E hr hlk (x_5, g_7, g_8, x_6) hw10 ⟨(by show 0 ≤ x_5.toInt; omega), (by show x_5.toInt ≤ (mi 37).toInt; omega), (by show x_6.toInt + x_5.toInt = (mi 34).toInt + (mi 37).toInt; omega), (by show 0 ≤ x_6.toInt; omega), (show SE (11 : Int32) (mf 36) ((mi 37).toInt).toNat (mf 31) (mf 32) (800 + ((mi 34).toInt).toNat) (x_5.toInt).toNat g_7 g_8 (800 + (x_6.toInt).toNat) from hi_8_4), (show NT (11 : Int32) (mf 36) (x_5.toInt).toNat from (Or.inr (pd_ne ev_14 (by have k_9 : (11 : Int32).toInt = 11 := (by decide +kernel); omega) (by omega))))⟩ (Nat.le_of_ble_eq_true rfl) (Nat.le_of_ble_eq_true rfl) dX12_settles_57
        · skip
          have hc_15 := eqE (a := v_14.toInt) (b := 11) rfl (by decide +kernel) c_15
          refine lv_aload_n (pc := 22) E.1 E.2.1 dX12_settles_22 rfl (lv_at hl11 0 rfl) ?_
          refine lv_aload_n (pc := 23) E.1 E.2.1 dX12_settles_23 rfl (lv_at hl11 0 rfl) ?_
          refine x_get (pc := 24) (T := TX12) (N := 70) (ci := 12) (v := .int x_5) E hw10 inX12 0 37 q_1436 rfl rfl (by decide) rfl rfl dX12_settles_24 ?_
          refine lv_iconst (pc := 27) (v := 1) E.1 E.2.1 dX12_settles_27 (by decide +kernel) ?_
          refine lv_isub (pc := 28) E.1 E.2.1 dX12_settles_28 ?_
          refine lv_topi (fun v_16 ev_16 => ?_)
          have hv_16 : v_16.toInt = x_5.toInt - 1 := by rw [ev_16]; exact subE rfl (by decide +kernel) (by omega)
          refine x_put (pc := 29) (T := TX12) (N := 70) (ci := 12) (ws' := (MW cI cJ M mr (upd (upd mi 34 x_6) 37 v_16) (va_up (va_up mf 31 g_7) 32 g_8) mg)) E hw10 inX12 tyX12_ok nmX12 0 37 q_1436 rfl rfl (by decide) rfl rfl rfl rfl (Nat.le_of_ble_eq_true rfl) rfl dX12_settles_29 (fun H locs hw17 => ?_)
          refine lv_aload_n (pc := 32) E.1 E.2.1 dX12_settles_32 rfl (lv_at hl11 0 rfl) ?_
          refine lv_iload_n (pc := 33) E.1 E.2.1 dX12_settles_33 rfl (lv_at hl11 1 rfl) ?_
          refine lv_iconst (pc := 34) (v := 0) E.1 E.2.1 dX12_settles_34 (by decide +kernel) ?_
          refine cm_v (pc := 35) hw17 (rn_M (As := [.int 11, .int 0]) (rest := []) E hw17 (s_emits2 l D cI cJ _ M mr (upd (upd mi 34 x_6) 37 v_16) (va_up (va_up mf 31 g_7) 32 g_8) mg 11 0 (by show 0 ≤ x_6.toInt ∧ x_6.toInt ≤ 399; omega)) (gdV q_1786 q_1788 q_82 q_162 q_1789) hdV_X12_emits ⟨rfl, rfl⟩ ⟨(Nat.le_of_ble_eq_true rfl), (Nat.le_of_ble_eq_true rfl)⟩ ⟨(Nat.le_of_ble_eq_true rfl), (Nat.le_of_ble_eq_true rfl)⟩ 12 rfl rfl rfl rfl hl11.1 rfl (Nat.le_of_ble_eq_true rfl) dX12_settles_35) (fun u_18 H1 locs hp hw20 => ?_)
          obtain ⟨gop_21, garg_22, ncodes_23⟩ := u_18
          generalize H1 = H at hw20 ⊢
          have hw24 : WD D A s.heap (MW cI cJ M mr (upd (upd mi 34 ncodes_23) 37 v_16) (va_up (va_up mf 31 gop_21) 32 garg_22) mg) H locs := hw20
          obtain ⟨hp_25, hp_26⟩ := hp
          have hp_25 : ncodes_23.toInt = x_6.toInt + 1 := hp_25
          have hp_26 : EM g_7 g_8 gop_21 garg_22 (800 + (x_6.toInt).toNat) (11 : Int32) (0 : Int32) := hp_26
          refine lv_iload_n (pc := 38) E.1 E.2.1 dX12_settles_38 rfl (lv_at hl11 1 rfl) ?_
          refine lv_bipush (pc := 39) (v := 9) E.1 E.2.1 dX12_settles_39 (by decide +kernel) ?_
          refine lv_icmp_ne (pc := 41) (tgt := 0) E.1 E.2.1 dX12_settles_41 (by decide) (fun _ => ?_) (fun c_27 => absurd c_27 (mneE (a := 11) (b := 9) (by decide +kernel) (by decide +kernel) (by omega)))
          exact ih_9 v_16 ncodes_23 gop_21 garg_22 _ _ _ ⟨(by show 0 ≤ v_16.toInt; omega), (by show v_16.toInt ≤ (mi 37).toInt; omega), (by show ncodes_23.toInt + v_16.toInt = (mi 34).toInt + (mi 37).toInt; omega), (by show 0 ≤ ncodes_23.toInt; omega), (SE_step hi_8_4 (pd_eq ev_14 (by have k_9 : (11 : Int32).toInt = 11 := (by decide +kernel); omega) (by omega)) (by omega) hp_26 (by omega))⟩ (by omega) hw24 (lv_sub hl11 [0, 1] rfl)
  exact loop_4 (Int.toNat ((mi 37).toInt) + 1) (mi 37) (mi 34) (mf 31) (mf 32) _ _ _ ⟨(by show 0 ≤ (mi 37).toInt; omega), (by show (mi 37).toInt ≤ (mi 37).toInt; omega), (by show (mi 34).toInt + (mi 37).toInt = (mi 34).toInt + (mi 37).toInt; omega), (by show 0 ≤ (mi 34).toInt; omega), SE_nil⟩ (by omega) hw1 (lv_sub hl3 [0, 1] rfl)

set_option maxHeartbeats 4000000 in
set_option maxRecDepth 100000 in
theorem s_readAny (l : Launch) (D : va_G) (cI cJ : ClassId) (sz M : Nat) (mr : Nat → Nat) (mi : Nat → Int32) (mf : Nat → Nat → Int32) (mg : Nat → Nat → Int64)  (h0 : 0 ≤ (mi 23).toInt) (h1 : (mi 23).toInt ≤ (mi 22).toInt) (h2 : (mi 22).toInt ≤ (mi 21).toInt) (h3 : (mi 21).toInt ≤ 400) (h4 : 0 ≤ (mi 24).toInt) (h5 : (mi 24).toInt ≤ 4) (h6 : (mi 24).toInt ≤ 4 * (mi 22).toInt - 4 * (mi 23).toInt) (h7 : ((mf 26) 153).toInt = 32) (h8 : 0 ≤ (mi 34).toInt) (h9 : (mi 34).toInt ≤ (mi 23).toInt) (h10 : 0 ≤ (mi 35).toInt ∧ (mi 35).toInt ≤ 8) : Met l yX12_readAny (Cond.code yX12_readAny cX12_readAny 4 (some .int) :: GW) ({ frames := 8, cells := 0, slots := 0, locals := 189 } : Room) (va_Pc [.ref M] (PW D cI cJ sz (MW cI cJ M mr mi mf mg) xT)) (va_Qi (fun (r : Int32) (u : Int32 × Int32 × Int32 × Int32 × (Nat → Int32) × (Nat → Int32) × Int32 × Int32 × Int32 × (Nat → Int32) × Int32 × Int32) => (0 ≤ u.2.1.toInt) ∧ (u.2.1.toInt ≤ u.1.toInt) ∧ (u.1.toInt ≤ (mi 21).toInt) ∧ (0 ≤ u.2.2.1.toInt) ∧ (u.2.2.1.toInt ≤ 4) ∧ (u.2.2.1.toInt ≤ 4 * u.1.toInt - 4 * u.2.1.toInt) ∧ (0 ≤ u.2.2.2.2.2.2.1.toInt) ∧ (u.2.2.2.2.2.2.1.toInt ≤ u.2.1.toInt) ∧ (0 ≤ u.2.2.2.2.2.2.2.2.2.2.2.toInt) ∧ (u.2.2.2.2.2.2.2.2.2.2.2.toInt ≤ 8) ∧ (r = 0 → TX (mf 31) (mf 32) (800 + ((mi 34).toInt).toNat) u.2.2.2.2.1 u.2.2.2.2.2.1 (800 + (u.2.2.2.2.2.2.1.toInt).toNat)) ∧ ((r = (-1)) ∨ (r = 0 ∧ (mi 23).toInt - (mi 34).toInt ≤ u.2.1.toInt - u.2.2.2.2.2.2.1.toInt ∧ (mi 23).toInt + 1 ≤ u.2.1.toInt))) (fun u => QW D cI cJ (va_A (MW cI cJ M mr mi mf mg) sz) ((fun (u : Int32 × Int32 × Int32 × Int32 × (Nat → Int32) × (Nat → Int32) × Int32 × Int32 × Int32 × (Nat → Int32) × Int32 × Int32) => (MW cI cJ M mr (upd (upd (upd (upd (upd (upd (upd (upd (upd mi 22 u.1) 23 u.2.1) 24 u.2.2.1) 25 u.2.2.2.1) 34 u.2.2.2.2.2.2.1) 38 u.2.2.2.2.2.2.2.1) 39 u.2.2.2.2.2.2.2.2.1) 37 u.2.2.2.2.2.2.2.2.2.2.1) 35 u.2.2.2.2.2.2.2.2.2.2.2) (va_up (va_up (va_up mf 31 u.2.2.2.2.1) 32 u.2.2.2.2.2.1) 36 u.2.2.2.2.2.2.2.2.2.1) mg)) u)) (va_A (MW cI cJ M mr mi mf mg) sz)) 0 0 (va_A (MW cI cJ M mr mi mf mg) sz) := by
  refine mk_met (y := yX12_readAny) (bytes := cX12_readAny) (maxL := 4) (avs := [.ref M]) (WS := (MW cI cJ M mr mi mf mg)) (Qf := fun A => va_Qi (fun (r : Int32) (u : Int32 × Int32 × Int32 × Int32 × (Nat → Int32) × (Nat → Int32) × Int32 × Int32 × Int32 × (Nat → Int32) × Int32 × Int32) => (0 ≤ u.2.1.toInt) ∧ (u.2.1.toInt ≤ u.1.toInt) ∧ (u.1.toInt ≤ (mi 21).toInt) ∧ (0 ≤ u.2.2.1.toInt) ∧ (u.2.2.1.toInt ≤ 4) ∧ (u.2.2.1.toInt ≤ 4 * u.1.toInt - 4 * u.2.1.toInt) ∧ (0 ≤ u.2.2.2.2.2.2.1.toInt) ∧ (u.2.2.2.2.2.2.1.toInt ≤ u.2.1.toInt) ∧ (0 ≤ u.2.2.2.2.2.2.2.2.2.2.2.toInt) ∧ (u.2.2.2.2.2.2.2.2.2.2.2.toInt ≤ 8) ∧ (r = 0 → TX (mf 31) (mf 32) (800 + ((mi 34).toInt).toNat) u.2.2.2.2.1 u.2.2.2.2.2.1 (800 + (u.2.2.2.2.2.2.1.toInt).toNat)) ∧ ((r = (-1)) ∨ (r = 0 ∧ (mi 23).toInt - (mi 34).toInt ≤ u.2.1.toInt - u.2.2.2.2.2.2.1.toInt ∧ (mi 23).toInt + 1 ≤ u.2.1.toInt))) (fun u => QW D cI cJ A ((fun (u : Int32 × Int32 × Int32 × Int32 × (Nat → Int32) × (Nat → Int32) × Int32 × Int32 × Int32 × (Nat → Int32) × Int32 × Int32) => (MW cI cJ M mr (upd (upd (upd (upd (upd (upd (upd (upd (upd mi 22 u.1) 23 u.2.1) 24 u.2.2.1) 25 u.2.2.2.1) 34 u.2.2.2.2.2.2.1) 38 u.2.2.2.2.2.2.2.1) 39 u.2.2.2.2.2.2.2.2.1) 37 u.2.2.2.2.2.2.2.2.2.2.1) 35 u.2.2.2.2.2.2.2.2.2.2.2) (va_up (va_up (va_up mf 31 u.2.2.2.2.1) 32 u.2.2.2.2.2.1) 36 u.2.2.2.2.2.2.2.2.2.1) mg)) u)) A) (by decide) (Nat.le_of_ble_eq_true rfl) ?_
  intro p e s m below meth c A ls E hr hlk hnm hX hw1 hl2
  have hl3 : lv_has ls 4 [(0, .ref M)] := hl2
  refine lv_iconst (pc := 0) (v := 0) E.1 E.2.1 dX12_readAny_0 (by decide +kernel) ?_
  refine lv_istore_n (pc := 1) (lv' := [(1, .int 0), (0, .ref M)]) E.1 E.2.1 dX12_readAny_1 rfl hl3 (by decide) rfl (fun ls hl4 => ?_)
  refine lv_aload_n (pc := 2) E.1 E.2.1 dX12_readAny_2 rfl (lv_at hl4 1 rfl) ?_
  refine lv_iconst (pc := 3) (v := 0) E.1 E.2.1 dX12_readAny_3 (by decide +kernel) ?_
  refine x_put (pc := 4) (T := TX12) (N := 70) (ci := 12) (ws' := (MW cI cJ M mr (upd mi 37 0) mf mg)) E hw1 inX12 tyX12_ok nmX12 0 37 q_1436 rfl rfl (by decide) rfl rfl rfl rfl (Nat.le_of_ble_eq_true rfl) rfl dX12_readAny_4 (fun H locs hw5 => ?_)
  refine lv_iconst (pc := 7) (v := 1) E.1 E.2.1 dX12_readAny_7 (by decide +kernel) ?_
  refine lv_istore_n (pc := 8) (lv' := [(2, .int 1), (1, .int 0), (0, .ref M)]) E.1 E.2.1 dX12_readAny_8 rfl hl4 (by decide) rfl (fun ls hl6 => ?_)
  have loop_7 : ∀ (k : Nat) (x_8 : Int32) (x_9 : Int32) (x_10 : Int32) (x_11 : Int32) (x_12 : Int32) (x_13 : Int32) (x_14 : Int32) (x_15 : Int32) (x_16 : Int32) (x_17 : Int32) (x_18 : Int32) (g_19 : Nat → Int32) (g_20 : Nat → Int32) (g_21 : Nat → Int32) (H : Heap) (locs : List Loc) (ls : Array Slot), (0 ≤ x_11.toInt) ∧ (x_11.toInt ≤ x_10.toInt) ∧ (x_10.toInt ≤ (mi 21).toInt) ∧ (0 ≤ x_12.toInt) ∧ (x_12.toInt ≤ 4) ∧ (x_12.toInt ≤ 4 * x_10.toInt - 4 * x_11.toInt) ∧ (0 ≤ x_14.toInt) ∧ (0 ≤ x_18.toInt) ∧ (x_18.toInt ≤ 8) ∧ (0 ≤ x_17.toInt) ∧ (x_17.toInt ≤ 26) ∧ (0 ≤ x_8.toInt) ∧ (x_8.toInt ≤ x_17.toInt) ∧ (0 ≤ x_9.toInt) ∧ (x_9.toInt ≤ 1) ∧ ((mi 23).toInt - (mi 34).toInt ≤ x_11.toInt - x_14.toInt - x_17.toInt) ∧ ((mi 23).toInt + 1 - x_9.toInt ≤ x_11.toInt) ∧ (RA (mf 31) (mf 32) (800 + ((mi 34).toInt).toNat) g_19 g_20 (800 + (x_14.toInt).toNat) g_21 (x_17.toInt).toNat x_18.toInt x_8.toInt (1 - x_9.toInt).toNat) ∧ (x_9.toInt = 0 → NT 9 g_21 (x_17.toInt).toNat) → 2 * (mi 21).toInt - 2 * x_11.toInt + x_9.toInt < (k : Int) → WD D A s.heap (MW cI cJ M mr (upd (upd (upd (upd (upd (upd (upd (upd (upd mi 22 x_10) 23 x_11) 24 x_12) 25 x_13) 34 x_14) 35 x_18) 37 x_17) 38 x_15) 39 x_16) (va_up (va_up (va_up mf 31 g_19) 32 g_20) 36 g_21) mg) H locs → lv_has ls 4 [(2, .int x_9), (1, .int x_8), (0, .ref M)] → W p l e ({ frames := 8, cells := 0, slots := 0, locals := 189 } : Room) s m ([.ref M] : List Value).toArray below meth c H locs 0 0 (MQ below (va_Qi (fun (r : Int32) (u : Int32 × Int32 × Int32 × Int32 × (Nat → Int32) × (Nat → Int32) × Int32 × Int32 × Int32 × (Nat → Int32) × Int32 × Int32) => (0 ≤ u.2.1.toInt) ∧ (u.2.1.toInt ≤ u.1.toInt) ∧ (u.1.toInt ≤ (mi 21).toInt) ∧ (0 ≤ u.2.2.1.toInt) ∧ (u.2.2.1.toInt ≤ 4) ∧ (u.2.2.1.toInt ≤ 4 * u.1.toInt - 4 * u.2.1.toInt) ∧ (0 ≤ u.2.2.2.2.2.2.1.toInt) ∧ (u.2.2.2.2.2.2.1.toInt ≤ u.2.1.toInt) ∧ (0 ≤ u.2.2.2.2.2.2.2.2.2.2.2.toInt) ∧ (u.2.2.2.2.2.2.2.2.2.2.2.toInt ≤ 8) ∧ (r = 0 → TX (mf 31) (mf 32) (800 + ((mi 34).toInt).toNat) u.2.2.2.2.1 u.2.2.2.2.2.1 (800 + (u.2.2.2.2.2.2.1.toInt).toNat)) ∧ ((r = (-1)) ∨ (r = 0 ∧ (mi 23).toInt - (mi 34).toInt ≤ u.2.1.toInt - u.2.2.2.2.2.2.1.toInt ∧ (mi 23).toInt + 1 ≤ u.2.1.toInt))) (fun u => QW D cI cJ A ((fun (u : Int32 × Int32 × Int32 × Int32 × (Nat → Int32) × (Nat → Int32) × Int32 × Int32 × Int32 × (Nat → Int32) × Int32 × Int32) => (MW cI cJ M mr (upd (upd (upd (upd (upd (upd (upd (upd (upd mi 22 u.1) 23 u.2.1) 24 u.2.2.1) 25 u.2.2.2.1) 34 u.2.2.2.2.2.2.1) 38 u.2.2.2.2.2.2.2.1) 39 u.2.2.2.2.2.2.2.2.1) 37 u.2.2.2.2.2.2.2.2.2.2.1) 35 u.2.2.2.2.2.2.2.2.2.2.2) (va_up (va_up (va_up mf 31 u.2.2.2.2.1) 32 u.2.2.2.2.2.1) 36 u.2.2.2.2.2.2.2.2.2.1) mg)) u)) A) ([.ref M] : List Value).toArray s 0 0 A) (F0 m 9 ls []) := by
    intro k
    induction k with
    | zero =>
      intro x_8 x_9 x_10 x_11 x_12 x_13 x_14 x_15 x_16 x_17 x_18 g_19 g_20 g_21 _ _ _ hinv hm
      obtain ⟨hi_21_0, hi_21_1, hi_21_2, hi_21_3, hi_21_4, hi_21_5, hi_21_6, hi_21_7, hi_21_8, hi_21_9, hi_21_10, hi_21_11, hi_21_12, hi_21_13, hi_21_14, hi_21_15, hi_21_16, hi_21_17, hi_21_18⟩ := hinv
      exact absurd hm (by omega)
    | succ k ih_22 =>
      intro x_8 x_9 x_10 x_11 x_12 x_13 x_14 x_15 x_16 x_17 x_18 g_19 g_20 g_21 H locs ls hinv hm hw23 hl24
      obtain ⟨hi_21_0, hi_21_1, hi_21_2, hi_21_3, hi_21_4, hi_21_5, hi_21_6, hi_21_7, hi_21_8, hi_21_9, hi_21_10, hi_21_11, hi_21_12, hi_21_13, hi_21_14, hi_21_15, hi_21_16, hi_21_17, hi_21_18⟩ := hinv
      refine lv_iload_n (pc := 9) E.1 E.2.1 dX12_readAny_9 rfl (lv_at hl24 0 rfl) ?_
      refine lv_if_eq (pc := 10) (tgt := 108) E.1 E.2.1 dX12_readAny_10 (by decide) (fun c_25 => ?_) (fun c_25 => ?_)
      · skip
        have hc_25 := eqE (a := x_9.toInt) (b := 0) rfl (by decide +kernel) c_25
        have hra_26 : RA (mf 31) (mf 32) (800 + ((mi 34).toInt).toNat) g_19 g_20 (800 + (x_14.toInt).toNat) g_21 (x_17.toInt).toNat x_18.toInt x_8.toInt 1 := RA_pn hi_21_17 rfl (by omega) rfl
        have h9_27 := hi_21_18 (by omega)
        refine lv_aload_n (pc := 108) E.1 E.2.1 dX12_readAny_108 rfl (lv_at hl24 2 rfl) ?_
        refine lv_iconst (pc := 109) (v := 4) E.1 E.2.1 dX12_readAny_109 (by decide +kernel) ?_
        refine cm_i (pc := 110) hw23 (rn_M (As := [.int 4]) (rest := []) E hw23 (s_isWord2 l D cI cJ _ M mr (upd (upd (upd (upd (upd (upd (upd (upd (upd mi 22 x_10) 23 x_11) 24 x_12) 25 x_13) 34 x_14) 35 x_18) 37 x_17) 38 x_15) 39 x_16) (va_up (va_up (va_up mf 31 g_19) 32 g_20) 36 g_21) mg 4) (gdV q_1694 q_1696 q_59 q_162 q_1697) hdV_X12_isWord ⟨rfl, rfl⟩ ⟨(Nat.le_of_ble_eq_true rfl), (Nat.le_of_ble_eq_true rfl)⟩ ⟨(Nat.le_of_ble_eq_true rfl), (Nat.le_of_ble_eq_true rfl)⟩ 12 rfl rfl rfl rfl hl24.1 rfl (Nat.le_of_ble_eq_true rfl) dX12_readAny_110) (fun r_29 u_28 H1 locs hp hw30 => ?_)
        generalize H1 = H at hw30 ⊢
        have hw31 : WD D A s.heap (MW cI cJ M mr (upd (upd (upd (upd (upd (upd (upd (upd (upd mi 22 x_10) 23 x_11) 24 x_12) 25 x_13) 34 x_14) 35 x_18) 37 x_17) 38 x_15) 39 x_16) (va_up (va_up (va_up mf 31 g_19) 32 g_20) 36 g_21) mg) H locs := hw30
        have hp_32 := hp
        rcases hp_32 with ⟨rfl, ha_33, ha_34⟩ | rfl
        · skip
          have ha_33 : x_12.toInt = 2 := ha_33
          have ha_34 : x_13.toInt = (4 : Int32).toInt := ha_34
          rw [show (4 : Int32).toInt = 4 from by decide +kernel] at ha_34
          refine lv_if_eq (pc := 113) (tgt := 137) E.1 E.2.1 dX12_readAny_113 (by decide) (fun c_35 => absurd c_35 (mneE (a := 1) (b := 0) (by decide +kernel) (by decide +kernel) (by omega))) (fun _ => ?_)
          refine lv_aload_n (pc := 116) E.1 E.2.1 dX12_readAny_116 rfl (lv_at hl24 2 rfl) ?_
          refine lv_bipush (pc := 117) (v := 10) E.1 E.2.1 dX12_readAny_117 (by decide +kernel) ?_
          refine cm_v (pc := 119) hw31 (rn_M (As := [.int 10]) (rest := []) E hw31 (s_settles10 l D cI cJ _ M mr (upd (upd (upd (upd (upd (upd (upd (upd (upd mi 22 x_10) 23 x_11) 24 x_12) 25 x_13) 34 x_14) 35 x_18) 37 x_17) 38 x_15) 39 x_16) (va_up (va_up (va_up mf 31 g_19) 32 g_20) 36 g_21) mg (by show 0 ≤ x_17.toInt ∧ x_17.toInt ≤ 40; omega) (by show 0 ≤ x_14.toInt; omega) (by show x_14.toInt + x_17.toInt ≤ 400; omega) (by show 0 ≤ x_18.toInt ∧ x_18.toInt ≤ 8; omega)) (gdV q_1802 q_1804 q_86 q_162 q_1805) hdV_X12_settles ⟨rfl, rfl⟩ ⟨(Nat.le_of_ble_eq_true rfl), (Nat.le_of_ble_eq_true rfl)⟩ ⟨(Nat.le_of_ble_eq_true rfl), (Nat.le_of_ble_eq_true rfl)⟩ 12 rfl rfl rfl rfl hl24.1 rfl (Nat.le_of_ble_eq_true rfl) dX12_readAny_119) (fun u_36 H1 locs hp hw38 => ?_)
          obtain ⟨npendings_39, gop_40, garg_41, ncodes_42⟩ := u_36
          generalize H1 = H at hw38 ⊢
          have hw43 : WD D A s.heap (MW cI cJ M mr (upd (upd (upd (upd (upd (upd (upd (upd (upd mi 22 x_10) 23 x_11) 24 x_12) 25 x_13) 34 ncodes_42) 35 x_18) 37 npendings_39) 38 x_15) 39 x_16) (va_up (va_up (va_up mf 31 gop_40) 32 garg_41) 36 g_21) mg) H locs := hw38
          obtain ⟨hp_44, hp_45, hp_46, hp_47, hp_48, hp_49⟩ := hp
          have hp_44 : 0 ≤ npendings_39.toInt := hp_44
          have hp_45 : npendings_39.toInt ≤ x_17.toInt := hp_45
          have hp_46 : ncodes_42.toInt + npendings_39.toInt = x_14.toInt + x_17.toInt := hp_46
          have hp_47 : 0 ≤ ncodes_42.toInt := hp_47
          have hp_48 : SE (10 : Int32) g_21 (x_17.toInt).toNat g_19 g_20 (800 + (x_14.toInt).toNat) (npendings_39.toInt).toNat gop_40 garg_41 (800 + (ncodes_42.toInt).toNat) := hp_48
          have hp_49 : NT (10 : Int32) g_21 (npendings_39.toInt).toNat := hp_49
          refine lv_aload_n (pc := 122) E.1 E.2.1 dX12_readAny_122 rfl (lv_at hl24 2 rfl) ?_
          refine lv_bipush (pc := 123) (v := 10) E.1 E.2.1 dX12_readAny_123 (by decide +kernel) ?_
          refine cm_v (pc := 125) hw43 (rn_M (As := [.int 10]) (rest := []) E hw43 (s_waits2 l D cI cJ _ M mr (upd (upd (upd (upd (upd (upd (upd (upd (upd mi 22 x_10) 23 x_11) 24 x_12) 25 x_13) 34 ncodes_42) 35 x_18) 37 npendings_39) 38 x_15) 39 x_16) (va_up (va_up (va_up mf 31 gop_40) 32 garg_41) 36 g_21) mg 10 (by show 0 ≤ npendings_39.toInt ∧ npendings_39.toInt ≤ 39; omega)) (gdV q_1794 q_1796 q_84 q_162 q_1797) hdV_X12_waits ⟨rfl, rfl⟩ ⟨(Nat.le_of_ble_eq_true rfl), (Nat.le_of_ble_eq_true rfl)⟩ ⟨(Nat.le_of_ble_eq_true rfl), (Nat.le_of_ble_eq_true rfl)⟩ 12 rfl rfl rfl rfl hl24.1 rfl (Nat.le_of_ble_eq_true rfl) dX12_readAny_125) (fun u_50 H1 locs hp hw52 => ?_)
          obtain ⟨gpending_53, npendings_54⟩ := u_50
          generalize H1 = H at hw52 ⊢
          have hw55 : WD D A s.heap (MW cI cJ M mr (upd (upd (upd (upd (upd (upd (upd (upd (upd mi 22 x_10) 23 x_11) 24 x_12) 25 x_13) 34 ncodes_42) 35 x_18) 37 npendings_54) 38 x_15) 39 x_16) (va_up (va_up (va_up mf 31 gop_40) 32 garg_41) 36 gpending_53) mg) H locs := hw52
          obtain ⟨hp_56, hp_57⟩ := hp
          have hp_56 : npendings_54.toInt = npendings_39.toInt + 1 := hp_56
          have hp_57 : gpending_53 ((npendings_39.toInt).toNat) = (10 : Int32) ∧ ∀ j : Nat, j < (npendings_39.toInt).toNat → gpending_53 j = g_21 j := hp_57
          refine lv_aload_n (pc := 128) E.1 E.2.1 dX12_readAny_128 rfl (lv_at hl24 2 rfl) ?_
          refine cm_v (pc := 129) hw55 (rn_M (As := []) (rest := []) E hw55 (s_reads l D cI cJ _ M mr (upd (upd (upd (upd (upd (upd (upd (upd (upd mi 22 x_10) 23 x_11) 24 x_12) 25 x_13) 34 ncodes_42) 35 x_18) 37 npendings_54) 38 x_15) 39 x_16) (va_up (va_up (va_up mf 31 gop_40) 32 garg_41) 36 gpending_53) mg (by show 0 ≤ x_10.toInt; omega) (by show x_10.toInt ≤ (mi 21).toInt; omega) (by show (mi 21).toInt ≤ 400; omega) (by show ((mf 26) 153).toInt = 32; omega)) (gdV q_1666 q_1668 q_52 q_162 q_1669) hdV_X12_reads ⟨rfl, rfl⟩ ⟨(Nat.le_of_ble_eq_true rfl), (Nat.le_of_ble_eq_true rfl)⟩ ⟨(Nat.le_of_ble_eq_true rfl), (Nat.le_of_ble_eq_true rfl)⟩ 12 rfl rfl rfl rfl hl24.1 rfl (Nat.le_of_ble_eq_true rfl) dX12_readAny_129) (fun u_58 H1 locs hp hw60 => ?_)
          obtain ⟨nspot_61, nfrom_62, ntoken_63, nvalue_64⟩ := u_58
          generalize H1 = H at hw60 ⊢
          have hw65 : WD D A s.heap (MW cI cJ M mr (upd (upd (upd (upd (upd (upd (upd (upd (upd mi 22 nspot_61) 23 nfrom_62) 24 ntoken_63) 25 nvalue_64) 34 ncodes_42) 35 x_18) 37 npendings_54) 38 x_15) 39 x_16) (va_up (va_up (va_up mf 31 gop_40) 32 garg_41) 36 gpending_53) mg) H locs := hw60
          obtain ⟨hp_66, hp_67, hp_68, hp_69, hp_70, hp_71, hp_72⟩ := hp
          have hp_66 : 0 ≤ nfrom_62.toInt := hp_66
          have hp_67 : nfrom_62.toInt ≤ nspot_61.toInt := hp_67
          have hp_68 : nspot_61.toInt ≤ (mi 21).toInt := hp_68
          have hp_69 : 0 ≤ ntoken_63.toInt := hp_69
          have hp_70 : ntoken_63.toInt ≤ 4 := hp_70
          have hp_71 : ntoken_63.toInt ≤ 4 * nspot_61.toInt - 4 * nfrom_62.toInt := hp_71
          have hp_72 : x_10.toInt ≤ nfrom_62.toInt := hp_72
          refine lv_iconst (pc := 132) (v := 1) E.1 E.2.1 dX12_readAny_132 (by decide +kernel) ?_
          refine lv_istore_n (pc := 133) (lv' := [(2, .int 1), (1, .int x_8), (0, .ref M)]) E.1 E.2.1 dX12_readAny_133 rfl hl24 (by decide) rfl (fun ls hl73 => ?_)
          refine lv_goto (pc := 134) (tgt := 9) E.1 E.2.1 dX12_readAny_134 (by decide) ?_
          have ra_75 := RA_bin k10 k10b hra_26 hp_48
          have n9_76 := NT_keep9a hra_26.1 h9_27 hp_48.1 hp_48.2.2.1
          have hra_74 : RA (mf 31) (mf 32) (800 + ((mi 34).toInt).toNat) gop_40 garg_41 (800 + (ncodes_42.toInt).toNat) gpending_53 (npendings_54.toInt).toNat x_18.toInt x_8.toInt 0 := RA_pn (RA_and ra_75 n9_76 hp_49 hp_57.1 hp_57.2) (by omega) rfl rfl
          have hb_77 := RA_br hra_74
          have hb_77o : 0 ≤ x_18.toInt := hb_77.2.2
          have hb_77b : 0 ≤ x_8.toInt := hb_77.1
          have hb_77c : x_8.toInt ≤ npendings_54.toInt := by have q := hb_77.2.1; omega
          have hra_74p : npendings_54.toInt ≤ 26 := by have q := RA_pend hra_74 (by omega); omega
          exact ih_22 x_8 1 nspot_61 nfrom_62 ntoken_63 nvalue_64 ncodes_42 x_15 x_16 npendings_54 x_18 gop_40 garg_41 gpending_53 _ _ _ ⟨(by show 0 ≤ nfrom_62.toInt; omega), (by show nfrom_62.toInt ≤ nspot_61.toInt; omega), (by show nspot_61.toInt ≤ (mi 21).toInt; omega), (by show 0 ≤ ntoken_63.toInt; omega), (by show ntoken_63.toInt ≤ 4; omega), (by show ntoken_63.toInt ≤ 4 * nspot_61.toInt - 4 * nfrom_62.toInt; omega), (by show 0 ≤ ncodes_42.toInt; omega), (by show 0 ≤ x_18.toInt; omega), (by show x_18.toInt ≤ 8; omega), (by show 0 ≤ npendings_54.toInt; omega), (by show npendings_54.toInt ≤ 26; omega), (by show 0 ≤ x_8.toInt; omega), (by show x_8.toInt ≤ npendings_54.toInt; omega), (by show 0 ≤ (1 : Int32).toInt; have k_0 : (1 : Int32).toInt = 1 := (by decide +kernel); omega), (by show (1 : Int32).toInt ≤ 1; have k_0 : (1 : Int32).toInt = 1 := (by decide +kernel); omega), (by show (mi 23).toInt - (mi 34).toInt ≤ nfrom_62.toInt - ncodes_42.toInt - npendings_54.toInt; omega), (by show (mi 23).toInt + 1 - (1 : Int32).toInt ≤ nfrom_62.toInt; have k_0 : (1 : Int32).toInt = 1 := (by decide +kernel); omega), (RA_pn hra_74 rfl (by first | rfl | decide +kernel | omega) rfl), (fun h => absurd h (by decide +kernel))⟩ (by have k_0 : (1 : Int32).toInt = 1 := (by decide +kernel); omega) hw65 (lv_sub hl73 [0, 1, 2] rfl)
        · skip
          refine lv_if_eq (pc := 113) (tgt := 137) E.1 E.2.1 dX12_readAny_113 (by decide) (fun _ => ?_) (fun c_78 => absurd (meqE (a := 0) (b := 0) (by decide +kernel) (by decide +kernel) (by omega)) c_78)
          refine lv_aload_n (pc := 137) E.1 E.2.1 dX12_readAny_137 rfl (lv_at hl24 2 rfl) ?_
          refine lv_iconst (pc := 138) (v := 3) E.1 E.2.1 dX12_readAny_138 (by decide +kernel) ?_
          refine cm_i (pc := 139) hw31 (rn_M (As := [.int 3]) (rest := []) E hw31 (s_isWord2 l D cI cJ _ M mr (upd (upd (upd (upd (upd (upd (upd (upd (upd mi 22 x_10) 23 x_11) 24 x_12) 25 x_13) 34 x_14) 35 x_18) 37 x_17) 38 x_15) 39 x_16) (va_up (va_up (va_up mf 31 g_19) 32 g_20) 36 g_21) mg 3) (gdV q_1694 q_1696 q_59 q_162 q_1697) hdV_X12_isWord ⟨rfl, rfl⟩ ⟨(Nat.le_of_ble_eq_true rfl), (Nat.le_of_ble_eq_true rfl)⟩ ⟨(Nat.le_of_ble_eq_true rfl), (Nat.le_of_ble_eq_true rfl)⟩ 12 rfl rfl rfl rfl hl24.1 rfl (Nat.le_of_ble_eq_true rfl) dX12_readAny_139) (fun r_80 u_79 H1 locs hp hw81 => ?_)
          generalize H1 = H at hw81 ⊢
          have hw82 : WD D A s.heap (MW cI cJ M mr (upd (upd (upd (upd (upd (upd (upd (upd (upd mi 22 x_10) 23 x_11) 24 x_12) 25 x_13) 34 x_14) 35 x_18) 37 x_17) 38 x_15) 39 x_16) (va_up (va_up (va_up mf 31 g_19) 32 g_20) 36 g_21) mg) H locs := hw81
          have hp_83 := hp
          rcases hp_83 with ⟨rfl, ha_84, ha_85⟩ | rfl
          · skip
            have ha_84 : x_12.toInt = 2 := ha_84
            have ha_85 : x_13.toInt = (3 : Int32).toInt := ha_85
            rw [show (3 : Int32).toInt = 3 from by decide +kernel] at ha_85
            refine lv_if_eq (pc := 142) (tgt := 172) E.1 E.2.1 dX12_readAny_142 (by decide) (fun c_86 => absurd c_86 (mneE (a := 1) (b := 0) (by decide +kernel) (by decide +kernel) (by omega))) (fun _ => ?_)
            refine lv_aload_n (pc := 145) E.1 E.2.1 dX12_readAny_145 rfl (lv_at hl24 2 rfl) ?_
            refine lv_bipush (pc := 146) (v := 10) E.1 E.2.1 dX12_readAny_146 (by decide +kernel) ?_
            refine cm_v (pc := 148) hw82 (rn_M (As := [.int 10]) (rest := []) E hw82 (s_settles10 l D cI cJ _ M mr (upd (upd (upd (upd (upd (upd (upd (upd (upd mi 22 x_10) 23 x_11) 24 x_12) 25 x_13) 34 x_14) 35 x_18) 37 x_17) 38 x_15) 39 x_16) (va_up (va_up (va_up mf 31 g_19) 32 g_20) 36 g_21) mg (by show 0 ≤ x_17.toInt ∧ x_17.toInt ≤ 40; omega) (by show 0 ≤ x_14.toInt; omega) (by show x_14.toInt + x_17.toInt ≤ 400; omega) (by show 0 ≤ x_18.toInt ∧ x_18.toInt ≤ 8; omega)) (gdV q_1802 q_1804 q_86 q_162 q_1805) hdV_X12_settles ⟨rfl, rfl⟩ ⟨(Nat.le_of_ble_eq_true rfl), (Nat.le_of_ble_eq_true rfl)⟩ ⟨(Nat.le_of_ble_eq_true rfl), (Nat.le_of_ble_eq_true rfl)⟩ 12 rfl rfl rfl rfl hl24.1 rfl (Nat.le_of_ble_eq_true rfl) dX12_readAny_148) (fun u_87 H1 locs hp hw89 => ?_)
            obtain ⟨npendings_90, gop_91, garg_92, ncodes_93⟩ := u_87
            generalize H1 = H at hw89 ⊢
            have hw94 : WD D A s.heap (MW cI cJ M mr (upd (upd (upd (upd (upd (upd (upd (upd (upd mi 22 x_10) 23 x_11) 24 x_12) 25 x_13) 34 ncodes_93) 35 x_18) 37 npendings_90) 38 x_15) 39 x_16) (va_up (va_up (va_up mf 31 gop_91) 32 garg_92) 36 g_21) mg) H locs := hw89
            obtain ⟨hp_95, hp_96, hp_97, hp_98, hp_99, hp_100⟩ := hp
            have hp_95 : 0 ≤ npendings_90.toInt := hp_95
            have hp_96 : npendings_90.toInt ≤ x_17.toInt := hp_96
            have hp_97 : ncodes_93.toInt + npendings_90.toInt = x_14.toInt + x_17.toInt := hp_97
            have hp_98 : 0 ≤ ncodes_93.toInt := hp_98
            have hp_99 : SE (10 : Int32) g_21 (x_17.toInt).toNat g_19 g_20 (800 + (x_14.toInt).toNat) (npendings_90.toInt).toNat gop_91 garg_92 (800 + (ncodes_93.toInt).toNat) := hp_99
            have hp_100 : NT (10 : Int32) g_21 (npendings_90.toInt).toNat := hp_100
            refine lv_aload_n (pc := 151) E.1 E.2.1 dX12_readAny_151 rfl (lv_at hl24 2 rfl) ?_
            refine lv_bipush (pc := 152) (v := 11) E.1 E.2.1 dX12_readAny_152 (by decide +kernel) ?_
            refine cm_v (pc := 154) hw94 (rn_M (As := [.int 11]) (rest := []) E hw94 (s_settles11 l D cI cJ _ M mr (upd (upd (upd (upd (upd (upd (upd (upd (upd mi 22 x_10) 23 x_11) 24 x_12) 25 x_13) 34 ncodes_93) 35 x_18) 37 npendings_90) 38 x_15) 39 x_16) (va_up (va_up (va_up mf 31 gop_91) 32 garg_92) 36 g_21) mg (by show 0 ≤ npendings_90.toInt ∧ npendings_90.toInt ≤ 40; omega) (by show 0 ≤ ncodes_93.toInt; omega) (by show ncodes_93.toInt + npendings_90.toInt ≤ 400; omega) (by show 0 ≤ x_18.toInt ∧ x_18.toInt ≤ 8; omega)) (gdV q_1802 q_1804 q_86 q_162 q_1805) hdV_X12_settles ⟨rfl, rfl⟩ ⟨(Nat.le_of_ble_eq_true rfl), (Nat.le_of_ble_eq_true rfl)⟩ ⟨(Nat.le_of_ble_eq_true rfl), (Nat.le_of_ble_eq_true rfl)⟩ 12 rfl rfl rfl rfl hl24.1 rfl (Nat.le_of_ble_eq_true rfl) dX12_readAny_154) (fun u_101 H1 locs hp hw103 => ?_)
            obtain ⟨npendings_104, gop_105, garg_106, ncodes_107⟩ := u_101
            generalize H1 = H at hw103 ⊢
            have hw108 : WD D A s.heap (MW cI cJ M mr (upd (upd (upd (upd (upd (upd (upd (upd (upd mi 22 x_10) 23 x_11) 24 x_12) 25 x_13) 34 ncodes_107) 35 x_18) 37 npendings_104) 38 x_15) 39 x_16) (va_up (va_up (va_up mf 31 gop_105) 32 garg_106) 36 g_21) mg) H locs := hw103
            obtain ⟨hp_109, hp_110, hp_111, hp_112, hp_113, hp_114⟩ := hp
            have hp_109 : 0 ≤ npendings_104.toInt := hp_109
            have hp_110 : npendings_104.toInt ≤ npendings_90.toInt := hp_110
            have hp_111 : ncodes_107.toInt + npendings_104.toInt = ncodes_93.toInt + npendings_90.toInt := hp_111
            have hp_112 : 0 ≤ ncodes_107.toInt := hp_112
            have hp_113 : SE (11 : Int32) g_21 (npendings_90.toInt).toNat gop_91 garg_92 (800 + (ncodes_93.toInt).toNat) (npendings_104.toInt).toNat gop_105 garg_106 (800 + (ncodes_107.toInt).toNat) := hp_113
            have hp_114 : NT (11 : Int32) g_21 (npendings_104.toInt).toNat := hp_114
            refine lv_aload_n (pc := 157) E.1 E.2.1 dX12_readAny_157 rfl (lv_at hl24 2 rfl) ?_
            refine lv_bipush (pc := 158) (v := 11) E.1 E.2.1 dX12_readAny_158 (by decide +kernel) ?_
            refine cm_v (pc := 160) hw108 (rn_M (As := [.int 11]) (rest := []) E hw108 (s_waits2 l D cI cJ _ M mr (upd (upd (upd (upd (upd (upd (upd (upd (upd mi 22 x_10) 23 x_11) 24 x_12) 25 x_13) 34 ncodes_107) 35 x_18) 37 npendings_104) 38 x_15) 39 x_16) (va_up (va_up (va_up mf 31 gop_105) 32 garg_106) 36 g_21) mg 11 (by show 0 ≤ npendings_104.toInt ∧ npendings_104.toInt ≤ 39; omega)) (gdV q_1794 q_1796 q_84 q_162 q_1797) hdV_X12_waits ⟨rfl, rfl⟩ ⟨(Nat.le_of_ble_eq_true rfl), (Nat.le_of_ble_eq_true rfl)⟩ ⟨(Nat.le_of_ble_eq_true rfl), (Nat.le_of_ble_eq_true rfl)⟩ 12 rfl rfl rfl rfl hl24.1 rfl (Nat.le_of_ble_eq_true rfl) dX12_readAny_160) (fun u_115 H1 locs hp hw117 => ?_)
            obtain ⟨gpending_118, npendings_119⟩ := u_115
            generalize H1 = H at hw117 ⊢
            have hw120 : WD D A s.heap (MW cI cJ M mr (upd (upd (upd (upd (upd (upd (upd (upd (upd mi 22 x_10) 23 x_11) 24 x_12) 25 x_13) 34 ncodes_107) 35 x_18) 37 npendings_119) 38 x_15) 39 x_16) (va_up (va_up (va_up mf 31 gop_105) 32 garg_106) 36 gpending_118) mg) H locs := hw117
            obtain ⟨hp_121, hp_122⟩ := hp
            have hp_121 : npendings_119.toInt = npendings_104.toInt + 1 := hp_121
            have hp_122 : gpending_118 ((npendings_104.toInt).toNat) = (11 : Int32) ∧ ∀ j : Nat, j < (npendings_104.toInt).toNat → gpending_118 j = g_21 j := hp_122
            refine lv_aload_n (pc := 163) E.1 E.2.1 dX12_readAny_163 rfl (lv_at hl24 2 rfl) ?_
            refine cm_v (pc := 164) hw120 (rn_M (As := []) (rest := []) E hw120 (s_reads l D cI cJ _ M mr (upd (upd (upd (upd (upd (upd (upd (upd (upd mi 22 x_10) 23 x_11) 24 x_12) 25 x_13) 34 ncodes_107) 35 x_18) 37 npendings_119) 38 x_15) 39 x_16) (va_up (va_up (va_up mf 31 gop_105) 32 garg_106) 36 gpending_118) mg (by show 0 ≤ x_10.toInt; omega) (by show x_10.toInt ≤ (mi 21).toInt; omega) (by show (mi 21).toInt ≤ 400; omega) (by show ((mf 26) 153).toInt = 32; omega)) (gdV q_1666 q_1668 q_52 q_162 q_1669) hdV_X12_reads ⟨rfl, rfl⟩ ⟨(Nat.le_of_ble_eq_true rfl), (Nat.le_of_ble_eq_true rfl)⟩ ⟨(Nat.le_of_ble_eq_true rfl), (Nat.le_of_ble_eq_true rfl)⟩ 12 rfl rfl rfl rfl hl24.1 rfl (Nat.le_of_ble_eq_true rfl) dX12_readAny_164) (fun u_123 H1 locs hp hw125 => ?_)
            obtain ⟨nspot_126, nfrom_127, ntoken_128, nvalue_129⟩ := u_123
            generalize H1 = H at hw125 ⊢
            have hw130 : WD D A s.heap (MW cI cJ M mr (upd (upd (upd (upd (upd (upd (upd (upd (upd mi 22 nspot_126) 23 nfrom_127) 24 ntoken_128) 25 nvalue_129) 34 ncodes_107) 35 x_18) 37 npendings_119) 38 x_15) 39 x_16) (va_up (va_up (va_up mf 31 gop_105) 32 garg_106) 36 gpending_118) mg) H locs := hw125
            obtain ⟨hp_131, hp_132, hp_133, hp_134, hp_135, hp_136, hp_137⟩ := hp
            have hp_131 : 0 ≤ nfrom_127.toInt := hp_131
            have hp_132 : nfrom_127.toInt ≤ nspot_126.toInt := hp_132
            have hp_133 : nspot_126.toInt ≤ (mi 21).toInt := hp_133
            have hp_134 : 0 ≤ ntoken_128.toInt := hp_134
            have hp_135 : ntoken_128.toInt ≤ 4 := hp_135
            have hp_136 : ntoken_128.toInt ≤ 4 * nspot_126.toInt - 4 * nfrom_127.toInt := hp_136
            have hp_137 : x_10.toInt ≤ nfrom_127.toInt := hp_137
            refine lv_iconst (pc := 167) (v := 1) E.1 E.2.1 dX12_readAny_167 (by decide +kernel) ?_
            refine lv_istore_n (pc := 168) (lv' := [(2, .int 1), (1, .int x_8), (0, .ref M)]) E.1 E.2.1 dX12_readAny_168 rfl hl24 (by decide) rfl (fun ls hl138 => ?_)
            refine lv_goto (pc := 169) (tgt := 9) E.1 E.2.1 dX12_readAny_169 (by decide) ?_
            have ra_140 := RA_bin k10 k10b hra_26 hp_99
            have n9_141 := NT_keep9a hra_26.1 h9_27 hp_99.1 hp_99.2.2.1
            have ra_142 := RA_bin k11 k11b ra_140 hp_113
            have n9_143 := NT_keepo (Or.inl rfl) ra_140.1 n9_141 hp_113.1 hp_113.2.2.1
            have nt_144 := NT_keepo (Or.inr rfl) ra_140.1 hp_100 hp_113.1 hp_113.2.2.1
            have hra_139 : RA (mf 31) (mf 32) (800 + ((mi 34).toInt).toNat) gop_105 garg_106 (800 + (ncodes_107.toInt).toNat) gpending_118 (npendings_119.toInt).toNat x_18.toInt x_8.toInt 0 := RA_pn (RA_or ra_142 n9_143 nt_144 hp_114 hp_122.1 hp_122.2) (by omega) rfl rfl
            have hb_145 := RA_br hra_139
            have hb_145o : 0 ≤ x_18.toInt := hb_145.2.2
            have hb_145b : 0 ≤ x_8.toInt := hb_145.1
            have hb_145c : x_8.toInt ≤ npendings_119.toInt := by have q := hb_145.2.1; omega
            have hra_139p : npendings_119.toInt ≤ 26 := by have q := RA_pend hra_139 (by omega); omega
            exact ih_22 x_8 1 nspot_126 nfrom_127 ntoken_128 nvalue_129 ncodes_107 x_15 x_16 npendings_119 x_18 gop_105 garg_106 gpending_118 _ _ _ ⟨(by show 0 ≤ nfrom_127.toInt; omega), (by show nfrom_127.toInt ≤ nspot_126.toInt; omega), (by show nspot_126.toInt ≤ (mi 21).toInt; omega), (by show 0 ≤ ntoken_128.toInt; omega), (by show ntoken_128.toInt ≤ 4; omega), (by show ntoken_128.toInt ≤ 4 * nspot_126.toInt - 4 * nfrom_127.toInt; omega), (by show 0 ≤ ncodes_107.toInt; omega), (by show 0 ≤ x_18.toInt; omega), (by show x_18.toInt ≤ 8; omega), (by show 0 ≤ npendings_119.toInt; omega), (by show npendings_119.toInt ≤ 26; omega), (by show 0 ≤ x_8.toInt; omega), (by show x_8.toInt ≤ npendings_119.toInt; omega), (by show 0 ≤ (1 : Int32).toInt; have k_0 : (1 : Int32).toInt = 1 := (by decide +kernel); omega), (by show (1 : Int32).toInt ≤ 1; have k_0 : (1 : Int32).toInt = 1 := (by decide +kernel); omega), (by show (mi 23).toInt - (mi 34).toInt ≤ nfrom_127.toInt - ncodes_107.toInt - npendings_119.toInt; omega), (by show (mi 23).toInt + 1 - (1 : Int32).toInt ≤ nfrom_127.toInt; have k_0 : (1 : Int32).toInt = 1 := (by decide +kernel); omega), (RA_pn hra_139 rfl (by first | rfl | decide +kernel | omega) rfl), (fun h => absurd h (by decide +kernel))⟩ (by have k_0 : (1 : Int32).toInt = 1 := (by decide +kernel); omega) hw130 (lv_sub hl138 [0, 1, 2] rfl)
          · skip
            refine lv_if_eq (pc := 142) (tgt := 172) E.1 E.2.1 dX12_readAny_142 (by decide) (fun _ => ?_) (fun c_146 => absurd (meqE (a := 0) (b := 0) (by decide +kernel) (by decide +kernel) (by omega)) c_146)
            refine lv_aload_n (pc := 172) E.1 E.2.1 dX12_readAny_172 rfl (lv_at hl24 2 rfl) ?_
            refine lv_bipush (pc := 173) (v := 10) E.1 E.2.1 dX12_readAny_173 (by decide +kernel) ?_
            refine cm_v (pc := 175) hw82 (rn_M (As := [.int 10]) (rest := []) E hw82 (s_settles10 l D cI cJ _ M mr (upd (upd (upd (upd (upd (upd (upd (upd (upd mi 22 x_10) 23 x_11) 24 x_12) 25 x_13) 34 x_14) 35 x_18) 37 x_17) 38 x_15) 39 x_16) (va_up (va_up (va_up mf 31 g_19) 32 g_20) 36 g_21) mg (by show 0 ≤ x_17.toInt ∧ x_17.toInt ≤ 40; omega) (by show 0 ≤ x_14.toInt; omega) (by show x_14.toInt + x_17.toInt ≤ 400; omega) (by show 0 ≤ x_18.toInt ∧ x_18.toInt ≤ 8; omega)) (gdV q_1802 q_1804 q_86 q_162 q_1805) hdV_X12_settles ⟨rfl, rfl⟩ ⟨(Nat.le_of_ble_eq_true rfl), (Nat.le_of_ble_eq_true rfl)⟩ ⟨(Nat.le_of_ble_eq_true rfl), (Nat.le_of_ble_eq_true rfl)⟩ 12 rfl rfl rfl rfl hl24.1 rfl (Nat.le_of_ble_eq_true rfl) dX12_readAny_175) (fun u_147 H1 locs hp hw149 => ?_)
            obtain ⟨npendings_150, gop_151, garg_152, ncodes_153⟩ := u_147
            generalize H1 = H at hw149 ⊢
            have hw154 : WD D A s.heap (MW cI cJ M mr (upd (upd (upd (upd (upd (upd (upd (upd (upd mi 22 x_10) 23 x_11) 24 x_12) 25 x_13) 34 ncodes_153) 35 x_18) 37 npendings_150) 38 x_15) 39 x_16) (va_up (va_up (va_up mf 31 gop_151) 32 garg_152) 36 g_21) mg) H locs := hw149
            obtain ⟨hp_155, hp_156, hp_157, hp_158, hp_159, hp_160⟩ := hp
            have hp_155 : 0 ≤ npendings_150.toInt := hp_155
            have hp_156 : npendings_150.toInt ≤ x_17.toInt := hp_156
            have hp_157 : ncodes_153.toInt + npendings_150.toInt = x_14.toInt + x_17.toInt := hp_157
            have hp_158 : 0 ≤ ncodes_153.toInt := hp_158
            have hp_159 : SE (10 : Int32) g_21 (x_17.toInt).toNat g_19 g_20 (800 + (x_14.toInt).toNat) (npendings_150.toInt).toNat gop_151 garg_152 (800 + (ncodes_153.toInt).toNat) := hp_159
            have hp_160 : NT (10 : Int32) g_21 (npendings_150.toInt).toNat := hp_160
            refine lv_aload_n (pc := 178) E.1 E.2.1 dX12_readAny_178 rfl (lv_at hl24 2 rfl) ?_
            refine lv_bipush (pc := 179) (v := 11) E.1 E.2.1 dX12_readAny_179 (by decide +kernel) ?_
            refine cm_v (pc := 181) hw154 (rn_M (As := [.int 11]) (rest := []) E hw154 (s_settles11 l D cI cJ _ M mr (upd (upd (upd (upd (upd (upd (upd (upd (upd mi 22 x_10) 23 x_11) 24 x_12) 25 x_13) 34 ncodes_153) 35 x_18) 37 npendings_150) 38 x_15) 39 x_16) (va_up (va_up (va_up mf 31 gop_151) 32 garg_152) 36 g_21) mg (by show 0 ≤ npendings_150.toInt ∧ npendings_150.toInt ≤ 40; omega) (by show 0 ≤ ncodes_153.toInt; omega) (by show ncodes_153.toInt + npendings_150.toInt ≤ 400; omega) (by show 0 ≤ x_18.toInt ∧ x_18.toInt ≤ 8; omega)) (gdV q_1802 q_1804 q_86 q_162 q_1805) hdV_X12_settles ⟨rfl, rfl⟩ ⟨(Nat.le_of_ble_eq_true rfl), (Nat.le_of_ble_eq_true rfl)⟩ ⟨(Nat.le_of_ble_eq_true rfl), (Nat.le_of_ble_eq_true rfl)⟩ 12 rfl rfl rfl rfl hl24.1 rfl (Nat.le_of_ble_eq_true rfl) dX12_readAny_181) (fun u_161 H1 locs hp hw163 => ?_)
            obtain ⟨npendings_164, gop_165, garg_166, ncodes_167⟩ := u_161
            generalize H1 = H at hw163 ⊢
            have hw168 : WD D A s.heap (MW cI cJ M mr (upd (upd (upd (upd (upd (upd (upd (upd (upd mi 22 x_10) 23 x_11) 24 x_12) 25 x_13) 34 ncodes_167) 35 x_18) 37 npendings_164) 38 x_15) 39 x_16) (va_up (va_up (va_up mf 31 gop_165) 32 garg_166) 36 g_21) mg) H locs := hw163
            obtain ⟨hp_169, hp_170, hp_171, hp_172, hp_173, hp_174⟩ := hp
            have hp_169 : 0 ≤ npendings_164.toInt := hp_169
            have hp_170 : npendings_164.toInt ≤ npendings_150.toInt := hp_170
            have hp_171 : ncodes_167.toInt + npendings_164.toInt = ncodes_153.toInt + npendings_150.toInt := hp_171
            have hp_172 : 0 ≤ ncodes_167.toInt := hp_172
            have hp_173 : SE (11 : Int32) g_21 (npendings_150.toInt).toNat gop_151 garg_152 (800 + (ncodes_153.toInt).toNat) (npendings_164.toInt).toNat gop_165 garg_166 (800 + (ncodes_167.toInt).toNat) := hp_173
            have hp_174 : NT (11 : Int32) g_21 (npendings_164.toInt).toNat := hp_174
            have ra_175 := RA_bin k10 k10b hra_26 hp_159
            have n9_176 := NT_keep9a hra_26.1 h9_27 hp_159.1 hp_159.2.2.1
            have ra_177 := RA_bin k11 k11b ra_175 hp_173
            have n9_178 := NT_keepo (Or.inl rfl) ra_175.1 n9_176 hp_173.1 hp_173.2.2.1
            have nt_179 := NT_keepo (Or.inr rfl) ra_175.1 hp_160 hp_173.1 hp_173.2.2.1
            refine lv_iload_n (pc := 184) E.1 E.2.1 dX12_readAny_184 rfl (lv_at hl24 1 rfl) ?_
            refine lv_if_ne (pc := 185) (tgt := 190) E.1 E.2.1 dX12_readAny_185 (by decide) (fun c_180 => ?_) (fun c_180 => ?_)
            · skip
              have hc_180 := neE (a := x_8.toInt) (b := 0) rfl (by decide +kernel) c_180
              refine lv_aload_n (pc := 190) E.1 E.2.1 dX12_readAny_190 rfl (lv_at hl24 2 rfl) ?_
              refine lv_bipush (pc := 191) (v := 41) E.1 E.2.1 dX12_readAny_191 (by decide +kernel) ?_
              refine cm_i (pc := 193) hw168 (rn_M (As := [.int 41]) (rest := []) E hw168 (s_isSign2 l D cI cJ _ M mr (upd (upd (upd (upd (upd (upd (upd (upd (upd mi 22 x_10) 23 x_11) 24 x_12) 25 x_13) 34 ncodes_167) 35 x_18) 37 npendings_164) 38 x_15) 39 x_16) (va_up (va_up (va_up mf 31 gop_165) 32 garg_166) 36 g_21) mg 41) (gdV q_1718 q_1720 q_65 q_162 q_1721) hdV_X12_isSign ⟨rfl, rfl⟩ ⟨(Nat.le_of_ble_eq_true rfl), (Nat.le_of_ble_eq_true rfl)⟩ ⟨(Nat.le_of_ble_eq_true rfl), (Nat.le_of_ble_eq_true rfl)⟩ 12 rfl rfl rfl rfl hl24.1 rfl (Nat.le_of_ble_eq_true rfl) dX12_readAny_193) (fun r_182 u_181 H1 locs hp hw183 => ?_)
              generalize H1 = H at hw183 ⊢
              have hw184 : WD D A s.heap (MW cI cJ M mr (upd (upd (upd (upd (upd (upd (upd (upd (upd mi 22 x_10) 23 x_11) 24 x_12) 25 x_13) 34 ncodes_167) 35 x_18) 37 npendings_164) 38 x_15) 39 x_16) (va_up (va_up (va_up mf 31 gop_165) 32 garg_166) 36 g_21) mg) H locs := hw183
              have hp_185 := hp
              rcases hp_185 with ⟨rfl, ha_186, ha_187⟩ | rfl
              · skip
                have ha_186 : x_12.toInt = 4 := ha_186
                have ha_187 : x_13.toInt = (41 : Int32).toInt := ha_187
                rw [show (41 : Int32).toInt = 41 from by decide +kernel] at ha_187
                refine lv_if_ne (pc := 196) (tgt := 205) E.1 E.2.1 dX12_readAny_196 (by decide) (fun _ => ?_) (fun c_188 => absurd c_188 (mneE (a := 1) (b := 0) (by decide +kernel) (by decide +kernel) (by omega)))
                have ra_189 := RA_bin k10 k10b hra_26 hp_159
                have n9_190 := NT_keep9a hra_26.1 h9_27 hp_159.1 hp_159.2.2.1
                have ra_191 := RA_bin k11 k11b ra_189 hp_173
                have n9_192 := NT_keepo (Or.inl rfl) ra_189.1 n9_190 hp_173.1 hp_173.2.2.1
                have nt_193 := NT_keepo (Or.inr rfl) ra_189.1 hp_160 hp_173.1 hp_173.2.2.1
                have hb_194 := RA_br ra_191
                have hb_194o : 0 ≤ x_18.toInt := hb_194.2.2
                have hb_194b : 0 ≤ x_8.toInt := hb_194.1
                have hb_194c : x_8.toInt ≤ npendings_164.toInt := by have q := hb_194.2.1; omega
                refine lv_aload_n (pc := 205) E.1 E.2.1 dX12_readAny_205 rfl (lv_at hl24 2 rfl) ?_
                refine lv_aload_n (pc := 206) E.1 E.2.1 dX12_readAny_206 rfl (lv_at hl24 2 rfl) ?_
                refine x_get (pc := 207) (T := TX12) (N := 70) (ci := 12) (v := .int npendings_164) E hw184 inX12 0 37 q_1436 rfl rfl (by decide) rfl rfl dX12_readAny_207 ?_
                refine lv_iconst (pc := 210) (v := 1) E.1 E.2.1 dX12_readAny_210 (by decide +kernel) ?_
                refine lv_isub (pc := 211) E.1 E.2.1 dX12_readAny_211 ?_
                refine lv_topi (fun v_195 ev_195 => ?_)
                have hv_195 : v_195.toInt = npendings_164.toInt - 1 := by rw [ev_195]; exact subE rfl (by decide +kernel) (by omega)
                refine x_put (pc := 212) (T := TX12) (N := 70) (ci := 12) (ws' := (MW cI cJ M mr (upd (upd (upd (upd (upd (upd (upd (upd (upd mi 22 x_10) 23 x_11) 24 x_12) 25 x_13) 34 ncodes_167) 35 x_18) 37 v_195) 38 x_15) 39 x_16) (va_up (va_up (va_up mf 31 gop_165) 32 garg_166) 36 g_21) mg)) E hw184 inX12 tyX12_ok nmX12 0 37 q_1436 rfl rfl (by decide) rfl rfl rfl rfl (Nat.le_of_ble_eq_true rfl) rfl dX12_readAny_212 (fun H locs hw196 => ?_)
                refine lv_iload_n (pc := 215) E.1 E.2.1 dX12_readAny_215 rfl (lv_at hl24 1 rfl) ?_
                refine lv_iconst (pc := 216) (v := 1) E.1 E.2.1 dX12_readAny_216 (by decide +kernel) ?_
                refine lv_isub (pc := 217) E.1 E.2.1 dX12_readAny_217 ?_
                refine lv_topi (fun v_197 ev_197 => ?_)
                have hv_197 : v_197.toInt = x_8.toInt - 1 := by rw [ev_197]; exact subE rfl (by decide +kernel) (by omega)
                refine lv_istore_n (pc := 218) (lv' := [(1, .int v_197), (2, .int x_9), (0, .ref M)]) E.1 E.2.1 dX12_readAny_218 rfl hl24 (by decide) rfl (fun ls hl198 => ?_)
                refine lv_aload_n (pc := 219) E.1 E.2.1 dX12_readAny_219 rfl (lv_at hl198 2 rfl) ?_
                refine lv_aload_n (pc := 220) E.1 E.2.1 dX12_readAny_220 rfl (lv_at hl198 2 rfl) ?_
                refine x_get (pc := 221) (T := TX12) (N := 70) (ci := 12) (v := .int x_18) E hw196 inX12 0 35 q_1434 rfl rfl (by decide) rfl rfl dX12_readAny_221 ?_
                refine lv_iconst (pc := 224) (v := 1) E.1 E.2.1 dX12_readAny_224 (by decide +kernel) ?_
                refine lv_isub (pc := 225) E.1 E.2.1 dX12_readAny_225 ?_
                refine lv_topi (fun v_199 ev_199 => ?_)
                have hv_199 : v_199.toInt = x_18.toInt - 1 := by rw [ev_199]; exact subE rfl (by decide +kernel) (by omega)
                refine x_put (pc := 226) (T := TX12) (N := 70) (ci := 12) (ws' := (MW cI cJ M mr (upd (upd (upd (upd (upd (upd (upd (upd (upd mi 22 x_10) 23 x_11) 24 x_12) 25 x_13) 34 ncodes_167) 35 v_199) 37 v_195) 38 x_15) 39 x_16) (va_up (va_up (va_up mf 31 gop_165) 32 garg_166) 36 g_21) mg)) E hw196 inX12 tyX12_ok nmX12 0 35 q_1434 rfl rfl (by decide) rfl rfl rfl rfl (Nat.le_of_ble_eq_true rfl) rfl dX12_readAny_226 (fun H locs hw200 => ?_)
                have hcl_201 : RA (mf 31) (mf 32) (800 + ((mi 34).toInt).toNat) gop_165 garg_166 (800 + (ncodes_167.toInt).toNat) g_21 (v_195.toInt).toNat v_199.toInt v_197.toInt 1 := RA_close ra_191 n9_192 nt_193 hp_174 (by omega) (by omega) (by omega) (by omega)
                have hb_202 := RA_br hcl_201
                have hb_202o : 0 ≤ v_199.toInt := hb_202.2.2
                have hb_202b : 0 ≤ v_197.toInt := hb_202.1
                have hb_202c : v_197.toInt ≤ v_195.toInt := by have q := hb_202.2.1; omega
                refine lv_aload_n (pc := 229) E.1 E.2.1 dX12_readAny_229 rfl (lv_at hl198 2 rfl) ?_
                refine lv_bipush (pc := 230) (v := 9) E.1 E.2.1 dX12_readAny_230 (by decide +kernel) ?_
                refine cm_v (pc := 232) hw200 (rn_M (As := [.int 9]) (rest := []) E hw200 (s_settles9 l D cI cJ _ M mr (upd (upd (upd (upd (upd (upd (upd (upd (upd mi 22 x_10) 23 x_11) 24 x_12) 25 x_13) 34 ncodes_167) 35 v_199) 37 v_195) 38 x_15) 39 x_16) (va_up (va_up (va_up mf 31 gop_165) 32 garg_166) 36 g_21) mg (by show 0 ≤ v_195.toInt ∧ v_195.toInt ≤ 40; omega) (by show 0 ≤ ncodes_167.toInt; omega) (by show ncodes_167.toInt + v_195.toInt ≤ 400; omega) (by show 0 ≤ v_199.toInt ∧ v_199.toInt ≤ 8; omega)) (gdV q_1802 q_1804 q_86 q_162 q_1805) hdV_X12_settles ⟨rfl, rfl⟩ ⟨(Nat.le_of_ble_eq_true rfl), (Nat.le_of_ble_eq_true rfl)⟩ ⟨(Nat.le_of_ble_eq_true rfl), (Nat.le_of_ble_eq_true rfl)⟩ 12 rfl rfl rfl rfl hl198.1 rfl (Nat.le_of_ble_eq_true rfl) dX12_readAny_232) (fun u_203 H1 locs hp hw205 => ?_)
                obtain ⟨npendings_206, gop_207, garg_208, ncodes_209, nopen_210⟩ := u_203
                generalize H1 = H at hw205 ⊢
                have hw211 : WD D A s.heap (MW cI cJ M mr (upd (upd (upd (upd (upd (upd (upd (upd (upd mi 22 x_10) 23 x_11) 24 x_12) 25 x_13) 34 ncodes_209) 35 nopen_210) 37 npendings_206) 38 x_15) 39 x_16) (va_up (va_up (va_up mf 31 gop_207) 32 garg_208) 36 g_21) mg) H locs := hw205
                obtain ⟨hp_212, hp_213, hp_214, hp_215, hp_216, hp_217, hp_218⟩ := hp
                have hp_212 : 0 ≤ npendings_206.toInt := hp_212
                have hp_213 : npendings_206.toInt ≤ v_195.toInt := hp_213
                have hp_214 : ncodes_209.toInt + npendings_206.toInt = ncodes_167.toInt + v_195.toInt := hp_214
                have hp_215 : 0 ≤ ncodes_209.toInt := hp_215
                have hp_216 : nopen_210.toInt = v_199.toInt - v_195.toInt + npendings_206.toInt := hp_216
                have hp_217 : SE (9 : Int32) g_21 (v_195.toInt).toNat gop_165 garg_166 (800 + (ncodes_167.toInt).toNat) (npendings_206.toInt).toNat gop_207 garg_208 (800 + (ncodes_209.toInt).toNat) := hp_217
                have hp_218 : NT (9 : Int32) g_21 (npendings_206.toInt).toNat := hp_218
                refine lv_aload_n (pc := 235) E.1 E.2.1 dX12_readAny_235 rfl (lv_at hl198 2 rfl) ?_
                refine cm_v (pc := 236) hw211 (rn_M (As := []) (rest := []) E hw211 (s_reads l D cI cJ _ M mr (upd (upd (upd (upd (upd (upd (upd (upd (upd mi 22 x_10) 23 x_11) 24 x_12) 25 x_13) 34 ncodes_209) 35 nopen_210) 37 npendings_206) 38 x_15) 39 x_16) (va_up (va_up (va_up mf 31 gop_207) 32 garg_208) 36 g_21) mg (by show 0 ≤ x_10.toInt; omega) (by show x_10.toInt ≤ (mi 21).toInt; omega) (by show (mi 21).toInt ≤ 400; omega) (by show ((mf 26) 153).toInt = 32; omega)) (gdV q_1666 q_1668 q_52 q_162 q_1669) hdV_X12_reads ⟨rfl, rfl⟩ ⟨(Nat.le_of_ble_eq_true rfl), (Nat.le_of_ble_eq_true rfl)⟩ ⟨(Nat.le_of_ble_eq_true rfl), (Nat.le_of_ble_eq_true rfl)⟩ 12 rfl rfl rfl rfl hl198.1 rfl (Nat.le_of_ble_eq_true rfl) dX12_readAny_236) (fun u_219 H1 locs hp hw221 => ?_)
                obtain ⟨nspot_222, nfrom_223, ntoken_224, nvalue_225⟩ := u_219
                generalize H1 = H at hw221 ⊢
                have hw226 : WD D A s.heap (MW cI cJ M mr (upd (upd (upd (upd (upd (upd (upd (upd (upd mi 22 nspot_222) 23 nfrom_223) 24 ntoken_224) 25 nvalue_225) 34 ncodes_209) 35 nopen_210) 37 npendings_206) 38 x_15) 39 x_16) (va_up (va_up (va_up mf 31 gop_207) 32 garg_208) 36 g_21) mg) H locs := hw221
                obtain ⟨hp_227, hp_228, hp_229, hp_230, hp_231, hp_232, hp_233⟩ := hp
                have hp_227 : 0 ≤ nfrom_223.toInt := hp_227
                have hp_228 : nfrom_223.toInt ≤ nspot_222.toInt := hp_228
                have hp_229 : nspot_222.toInt ≤ (mi 21).toInt := hp_229
                have hp_230 : 0 ≤ ntoken_224.toInt := hp_230
                have hp_231 : ntoken_224.toInt ≤ 4 := hp_231
                have hp_232 : ntoken_224.toInt ≤ 4 * nspot_222.toInt - 4 * nfrom_223.toInt := hp_232
                have hp_233 : x_10.toInt ≤ nfrom_223.toInt := hp_233
                refine lv_goto (pc := 239) (tgt := 9) E.1 E.2.1 dX12_readAny_239 (by decide) ?_
                have hra_234 : RA (mf 31) (mf 32) (800 + ((mi 34).toInt).toNat) gop_207 garg_208 (800 + (ncodes_209.toInt).toNat) g_21 (npendings_206.toInt).toNat nopen_210.toInt v_197.toInt 1 := RA_not hcl_201 hp_217 (by omega)
                have hb_235 := RA_br hra_234
                have hb_235o : 0 ≤ nopen_210.toInt := hb_235.2.2
                have hb_235b : 0 ≤ v_197.toInt := hb_235.1
                have hb_235c : v_197.toInt ≤ npendings_206.toInt := by have q := hb_235.2.1; omega
                have hra_234p : npendings_206.toInt ≤ 26 := by have q := RA_pend hra_234 (by omega); omega
                exact ih_22 v_197 x_9 nspot_222 nfrom_223 ntoken_224 nvalue_225 ncodes_209 x_15 x_16 npendings_206 nopen_210 gop_207 garg_208 g_21 _ _ _ ⟨(by show 0 ≤ nfrom_223.toInt; omega), (by show nfrom_223.toInt ≤ nspot_222.toInt; omega), (by show nspot_222.toInt ≤ (mi 21).toInt; omega), (by show 0 ≤ ntoken_224.toInt; omega), (by show ntoken_224.toInt ≤ 4; omega), (by show ntoken_224.toInt ≤ 4 * nspot_222.toInt - 4 * nfrom_223.toInt; omega), (by show 0 ≤ ncodes_209.toInt; omega), (by show 0 ≤ nopen_210.toInt; omega), (by show nopen_210.toInt ≤ 8; omega), (by show 0 ≤ npendings_206.toInt; omega), (by show npendings_206.toInt ≤ 26; omega), (by show 0 ≤ v_197.toInt; omega), (by show v_197.toInt ≤ npendings_206.toInt; omega), (by show 0 ≤ x_9.toInt; omega), (by show x_9.toInt ≤ 1; omega), (by show (mi 23).toInt - (mi 34).toInt ≤ nfrom_223.toInt - ncodes_209.toInt - npendings_206.toInt; omega), (by show (mi 23).toInt + 1 - x_9.toInt ≤ nfrom_223.toInt; omega), (RA_pn hra_234 rfl (by first | rfl | decide +kernel | omega) rfl), (fun _ => hp_218)⟩ (by omega) hw226 (lv_sub hl198 [1, 0, 2] rfl)
              · skip
                refine lv_if_ne (pc := 196) (tgt := 205) E.1 E.2.1 dX12_readAny_196 (by decide) (fun c_236 => absurd (meqE (a := 0) (b := 0) (by decide +kernel) (by decide +kernel) (by omega)) c_236) (fun _ => ?_)
                refine lv_aload_n (pc := 199) E.1 E.2.1 dX12_readAny_199 rfl (lv_at hl24 2 rfl) ?_
                refine lv_iconst (pc := 200) (v := 1) E.1 E.2.1 dX12_readAny_200 (by decide +kernel) ?_
                refine cm_i (pc := 201) hw184 (rn_M (As := [.int 1]) (rest := []) E hw184 (s_errs2 l D cI cJ _ M mr (upd (upd (upd (upd (upd (upd (upd (upd (upd mi 22 x_10) 23 x_11) 24 x_12) 25 x_13) 34 ncodes_167) 35 x_18) 37 npendings_164) 38 x_15) 39 x_16) (va_up (va_up (va_up mf 31 gop_165) 32 garg_166) 36 g_21) mg 1) (gdV q_1698 q_1700 q_60 q_162 q_1701) hdV_X12_errs ⟨rfl, rfl⟩ ⟨(Nat.le_of_ble_eq_true rfl), (Nat.le_of_ble_eq_true rfl)⟩ ⟨(Nat.le_of_ble_eq_true rfl), (Nat.le_of_ble_eq_true rfl)⟩ 12 rfl rfl rfl rfl hl24.1 rfl (Nat.le_of_ble_eq_true rfl) dX12_readAny_201) (fun r_238 u_237 H1 locs hp hw239 => ?_)
                obtain ⟨nreadFault_240, nreadPlace_241⟩ := u_237
                generalize H1 = H at hw239 ⊢
                have hw242 : WD D A s.heap (MW cI cJ M mr (upd (upd (upd (upd (upd (upd (upd (upd (upd mi 22 x_10) 23 x_11) 24 x_12) 25 x_13) 34 ncodes_167) 35 x_18) 37 npendings_164) 38 nreadFault_240) 39 nreadPlace_241) (va_up (va_up (va_up mf 31 gop_165) 32 garg_166) 36 g_21) mg) H locs := hw239
                have hp_243 := hp
                rcases hp_243 with rfl
                · skip
                  exact em_i (w1 := (fun (u : Int32 × Int32 × Int32 × Int32 × (Nat → Int32) × (Nat → Int32) × Int32 × Int32 × Int32 × (Nat → Int32) × Int32 × Int32) => (MW cI cJ M mr (upd (upd (upd (upd (upd (upd (upd (upd (upd mi 22 u.1) 23 u.2.1) 24 u.2.2.1) 25 u.2.2.2.1) 34 u.2.2.2.2.2.2.1) 38 u.2.2.2.2.2.2.2.1) 39 u.2.2.2.2.2.2.2.2.1) 37 u.2.2.2.2.2.2.2.2.2.2.1) 35 u.2.2.2.2.2.2.2.2.2.2.2) (va_up (va_up (va_up mf 31 u.2.2.2.2.1) 32 u.2.2.2.2.2.1) 36 u.2.2.2.2.2.2.2.2.2.1) mg))) E hr hlk (x_10, x_11, x_12, x_13, gop_165, garg_166, ncodes_167, nreadFault_240, nreadPlace_241, g_21, npendings_164, x_18) hw242 ⟨(by show 0 ≤ x_11.toInt; have k_0 : ((-1) : Int32).toInt = -1 := (by decide +kernel); omega), (by show x_11.toInt ≤ x_10.toInt; have k_0 : ((-1) : Int32).toInt = -1 := (by decide +kernel); omega), (by show x_10.toInt ≤ (mi 21).toInt; have k_0 : ((-1) : Int32).toInt = -1 := (by decide +kernel); omega), (by show 0 ≤ x_12.toInt; have k_0 : ((-1) : Int32).toInt = -1 := (by decide +kernel); omega), (by show x_12.toInt ≤ 4; have k_0 : ((-1) : Int32).toInt = -1 := (by decide +kernel); omega), (by show x_12.toInt ≤ 4 * x_10.toInt - 4 * x_11.toInt; have k_0 : ((-1) : Int32).toInt = -1 := (by decide +kernel); omega), (by show 0 ≤ ncodes_167.toInt; have k_0 : ((-1) : Int32).toInt = -1 := (by decide +kernel); omega), (by show ncodes_167.toInt ≤ x_11.toInt; have k_0 : ((-1) : Int32).toInt = -1 := (by decide +kernel); omega), (by show 0 ≤ x_18.toInt; have k_0 : ((-1) : Int32).toInt = -1 := (by decide +kernel); omega), (by show x_18.toInt ≤ 8; have k_0 : ((-1) : Int32).toInt = -1 := (by decide +kernel); omega), (fun h => absurd h (by decide +kernel)), (Or.inl rfl)⟩ (Nat.le_of_ble_eq_true rfl) (Nat.le_of_ble_eq_true rfl) dX12_readAny_204
            · skip
              have hc_180 := eqE (a := x_8.toInt) (b := 0) rfl (by decide +kernel) c_180
              refine lv_iconst (pc := 188) (v := 0) E.1 E.2.1 dX12_readAny_188 (by decide +kernel) ?_
              exact em_i (w1 := (fun (u : Int32 × Int32 × Int32 × Int32 × (Nat → Int32) × (Nat → Int32) × Int32 × Int32 × Int32 × (Nat → Int32) × Int32 × Int32) => (MW cI cJ M mr (upd (upd (upd (upd (upd (upd (upd (upd (upd mi 22 u.1) 23 u.2.1) 24 u.2.2.1) 25 u.2.2.2.1) 34 u.2.2.2.2.2.2.1) 38 u.2.2.2.2.2.2.2.1) 39 u.2.2.2.2.2.2.2.2.1) 37 u.2.2.2.2.2.2.2.2.2.2.1) 35 u.2.2.2.2.2.2.2.2.2.2.2) (va_up (va_up (va_up mf 31 u.2.2.2.2.1) 32 u.2.2.2.2.2.1) 36 u.2.2.2.2.2.2.2.2.2.1) mg))) E hr hlk (x_10, x_11, x_12, x_13, gop_165, garg_166, ncodes_167, x_15, x_16, g_21, npendings_164, x_18) hw168 ⟨(by show 0 ≤ x_11.toInt; have k_0 : (0 : Int32).toInt = 0 := (by decide +kernel); omega), (by show x_11.toInt ≤ x_10.toInt; have k_0 : (0 : Int32).toInt = 0 := (by decide +kernel); omega), (by show x_10.toInt ≤ (mi 21).toInt; have k_0 : (0 : Int32).toInt = 0 := (by decide +kernel); omega), (by show 0 ≤ x_12.toInt; have k_0 : (0 : Int32).toInt = 0 := (by decide +kernel); omega), (by show x_12.toInt ≤ 4; have k_0 : (0 : Int32).toInt = 0 := (by decide +kernel); omega), (by show x_12.toInt ≤ 4 * x_10.toInt - 4 * x_11.toInt; have k_0 : (0 : Int32).toInt = 0 := (by decide +kernel); omega), (by show 0 ≤ ncodes_167.toInt; have k_0 : (0 : Int32).toInt = 0 := (by decide +kernel); omega), (by show ncodes_167.toInt ≤ x_11.toInt; have k_0 : (0 : Int32).toInt = 0 := (by decide +kernel); omega), (by show 0 ≤ x_18.toInt; have k_0 : (0 : Int32).toInt = 0 := (by decide +kernel); omega), (by show x_18.toInt ≤ 8; have k_0 : (0 : Int32).toInt = 0 := (by decide +kernel); omega), (fun _ => (show TX (mf 31) (mf 32) (800 + ((mi 34).toInt).toNat) gop_165 garg_166 (800 + (ncodes_167.toInt).toNat) from (RA_end ra_177 n9_178 nt_179 hp_174 (by omega)))), (Or.inr (⟨rfl, (by show (mi 23).toInt - (mi 34).toInt ≤ x_11.toInt - ncodes_167.toInt; omega), (by show (mi 23).toInt + 1 ≤ x_11.toInt; omega)⟩))⟩ (Nat.le_of_ble_eq_true rfl) (Nat.le_of_ble_eq_true rfl) dX12_readAny_189
      · skip
        have hc_25 := neE (a := x_9.toInt) (b := 0) rfl (by decide +kernel) c_25
        have hra_245 : RA (mf 31) (mf 32) (800 + ((mi 34).toInt).toNat) g_19 g_20 (800 + (x_14.toInt).toNat) g_21 (x_17.toInt).toNat x_18.toInt x_8.toInt 0 := RA_pn hi_21_17 rfl (by omega) rfl
        refine lv_aload_n (pc := 13) E.1 E.2.1 dX12_readAny_13 rfl (lv_at hl24 2 rfl) ?_
        refine lv_iconst (pc := 14) (v := 5) E.1 E.2.1 dX12_readAny_14 (by decide +kernel) ?_
        refine cm_i (pc := 15) hw23 (rn_M (As := [.int 5]) (rest := []) E hw23 (s_isWord2 l D cI cJ _ M mr (upd (upd (upd (upd (upd (upd (upd (upd (upd mi 22 x_10) 23 x_11) 24 x_12) 25 x_13) 34 x_14) 35 x_18) 37 x_17) 38 x_15) 39 x_16) (va_up (va_up (va_up mf 31 g_19) 32 g_20) 36 g_21) mg 5) (gdV q_1694 q_1696 q_59 q_162 q_1697) hdV_X12_isWord ⟨rfl, rfl⟩ ⟨(Nat.le_of_ble_eq_true rfl), (Nat.le_of_ble_eq_true rfl)⟩ ⟨(Nat.le_of_ble_eq_true rfl), (Nat.le_of_ble_eq_true rfl)⟩ 12 rfl rfl rfl rfl hl24.1 rfl (Nat.le_of_ble_eq_true rfl) dX12_readAny_15) (fun r_247 u_246 H1 locs hp hw248 => ?_)
        generalize H1 = H at hw248 ⊢
        have hw249 : WD D A s.heap (MW cI cJ M mr (upd (upd (upd (upd (upd (upd (upd (upd (upd mi 22 x_10) 23 x_11) 24 x_12) 25 x_13) 34 x_14) 35 x_18) 37 x_17) 38 x_15) 39 x_16) (va_up (va_up (va_up mf 31 g_19) 32 g_20) 36 g_21) mg) H locs := hw248
        have hp_250 := hp
        rcases hp_250 with ⟨rfl, ha_251, ha_252⟩ | rfl
        · skip
          have ha_251 : x_12.toInt = 2 := ha_251
          have ha_252 : x_13.toInt = (5 : Int32).toInt := ha_252
          rw [show (5 : Int32).toInt = 5 from by decide +kernel] at ha_252
          refine lv_istore_n (pc := 18) (lv' := [(3, .int 1), (2, .int x_9), (1, .int x_8), (0, .ref M)]) E.1 E.2.1 dX12_readAny_18 rfl hl24 (by decide) rfl (fun ls hl253 => ?_)
          refine lv_iload_n (pc := 19) E.1 E.2.1 dX12_readAny_19 rfl (lv_at hl253 0 rfl) ?_
          refine lv_if_ne (pc := 20) (tgt := 32) E.1 E.2.1 dX12_readAny_20 (by decide) (fun _ => ?_) (fun c_254 => absurd c_254 (mneE (a := 1) (b := 0) (by decide +kernel) (by decide +kernel) (by omega)))
          refine lv_aload_n (pc := 32) E.1 E.2.1 dX12_readAny_32 rfl (lv_at hl253 3 rfl) ?_
          refine x_get (pc := 33) (T := TX12) (N := 70) (ci := 12) (v := .int x_18) E hw249 inX12 0 35 q_1434 rfl rfl (by decide) rfl rfl dX12_readAny_33 ?_
          refine lv_bipush (pc := 36) (v := 8) E.1 E.2.1 dX12_readAny_36 (by decide +kernel) ?_
          refine lv_icmp_ne (pc := 38) (tgt := 47) E.1 E.2.1 dX12_readAny_38 (by decide) (fun c_255 => ?_) (fun c_255 => ?_)
          · skip
            have hc_255 := neE (a := x_18.toInt) (b := 8) rfl (by decide +kernel) c_255
            refine lv_aload_n (pc := 47) E.1 E.2.1 dX12_readAny_47 rfl (lv_at hl253 3 rfl) ?_
            refine lv_aload_n (pc := 48) E.1 E.2.1 dX12_readAny_48 rfl (lv_at hl253 3 rfl) ?_
            refine x_get (pc := 49) (T := TX12) (N := 70) (ci := 12) (v := .int x_18) E hw249 inX12 0 35 q_1434 rfl rfl (by decide) rfl rfl dX12_readAny_49 ?_
            refine lv_iconst (pc := 52) (v := 1) E.1 E.2.1 dX12_readAny_52 (by decide +kernel) ?_
            refine lv_iadd (pc := 53) E.1 E.2.1 dX12_readAny_53 ?_
            refine lv_topi (fun v_256 ev_256 => ?_)
            have hv_256 : v_256.toInt = x_18.toInt + 1 := by rw [ev_256]; exact addE rfl (by decide +kernel) (by omega)
            refine x_put (pc := 54) (T := TX12) (N := 70) (ci := 12) (ws' := (MW cI cJ M mr (upd (upd (upd (upd (upd (upd (upd (upd (upd mi 22 x_10) 23 x_11) 24 x_12) 25 x_13) 34 x_14) 35 v_256) 37 x_17) 38 x_15) 39 x_16) (va_up (va_up (va_up mf 31 g_19) 32 g_20) 36 g_21) mg)) E hw249 inX12 tyX12_ok nmX12 0 35 q_1434 rfl rfl (by decide) rfl rfl rfl rfl (Nat.le_of_ble_eq_true rfl) rfl dX12_readAny_54 (fun H locs hw257 => ?_)
            refine lv_iload_n (pc := 57) E.1 E.2.1 dX12_readAny_57 rfl (lv_at hl253 0 rfl) ?_
            refine lv_if_ne (pc := 58) (tgt := 65) E.1 E.2.1 dX12_readAny_58 (by decide) (fun _ => ?_) (fun c_258 => absurd c_258 (mneE (a := 1) (b := 0) (by decide +kernel) (by decide +kernel) (by omega)))
            refine lv_aload_n (pc := 65) E.1 E.2.1 dX12_readAny_65 rfl (lv_at hl253 3 rfl) ?_
            refine lv_iload_n (pc := 66) E.1 E.2.1 dX12_readAny_66 rfl (lv_at hl253 0 rfl) ?_
            refine lv_if_eq (pc := 67) (tgt := 75) E.1 E.2.1 dX12_readAny_67 (by decide) (fun c_259 => absurd c_259 (mneE (a := 1) (b := 0) (by decide +kernel) (by decide +kernel) (by omega))) (fun _ => ?_)
            refine lv_bipush (pc := 70) (v := 9) E.1 E.2.1 dX12_readAny_70 (by decide +kernel) ?_
            refine lv_goto (pc := 72) (tgt := 77) E.1 E.2.1 dX12_readAny_72 (by decide) ?_
            refine cm_v (pc := 77) hw257 (rn_M (As := [.int 9]) (rest := []) E hw257 (s_waits2 l D cI cJ _ M mr (upd (upd (upd (upd (upd (upd (upd (upd (upd mi 22 x_10) 23 x_11) 24 x_12) 25 x_13) 34 x_14) 35 v_256) 37 x_17) 38 x_15) 39 x_16) (va_up (va_up (va_up mf 31 g_19) 32 g_20) 36 g_21) mg 9 (by show 0 ≤ x_17.toInt ∧ x_17.toInt ≤ 39; omega)) (gdV q_1794 q_1796 q_84 q_162 q_1797) hdV_X12_waits ⟨rfl, rfl⟩ ⟨(Nat.le_of_ble_eq_true rfl), (Nat.le_of_ble_eq_true rfl)⟩ ⟨(Nat.le_of_ble_eq_true rfl), (Nat.le_of_ble_eq_true rfl)⟩ 12 rfl rfl rfl rfl hl253.1 rfl (Nat.le_of_ble_eq_true rfl) dX12_readAny_77) (fun u_260 H1 locs hp hw262 => ?_)
            obtain ⟨gpending_263, npendings_264⟩ := u_260
            generalize H1 = H at hw262 ⊢
            have hw265 : WD D A s.heap (MW cI cJ M mr (upd (upd (upd (upd (upd (upd (upd (upd (upd mi 22 x_10) 23 x_11) 24 x_12) 25 x_13) 34 x_14) 35 v_256) 37 npendings_264) 38 x_15) 39 x_16) (va_up (va_up (va_up mf 31 g_19) 32 g_20) 36 gpending_263) mg) H locs := hw262
            obtain ⟨hp_266, hp_267⟩ := hp
            have hp_266 : npendings_264.toInt = x_17.toInt + 1 := hp_266
            have hp_267 : gpending_263 ((x_17.toInt).toNat) = (9 : Int32) ∧ ∀ j : Nat, j < (x_17.toInt).toNat → gpending_263 j = g_21 j := hp_267
            refine lv_aload_n (pc := 80) E.1 E.2.1 dX12_readAny_80 rfl (lv_at hl253 3 rfl) ?_
            refine cm_v (pc := 81) hw265 (rn_M (As := []) (rest := []) E hw265 (s_reads l D cI cJ _ M mr (upd (upd (upd (upd (upd (upd (upd (upd (upd mi 22 x_10) 23 x_11) 24 x_12) 25 x_13) 34 x_14) 35 v_256) 37 npendings_264) 38 x_15) 39 x_16) (va_up (va_up (va_up mf 31 g_19) 32 g_20) 36 gpending_263) mg (by show 0 ≤ x_10.toInt; omega) (by show x_10.toInt ≤ (mi 21).toInt; omega) (by show (mi 21).toInt ≤ 400; omega) (by show ((mf 26) 153).toInt = 32; omega)) (gdV q_1666 q_1668 q_52 q_162 q_1669) hdV_X12_reads ⟨rfl, rfl⟩ ⟨(Nat.le_of_ble_eq_true rfl), (Nat.le_of_ble_eq_true rfl)⟩ ⟨(Nat.le_of_ble_eq_true rfl), (Nat.le_of_ble_eq_true rfl)⟩ 12 rfl rfl rfl rfl hl253.1 rfl (Nat.le_of_ble_eq_true rfl) dX12_readAny_81) (fun u_268 H1 locs hp hw270 => ?_)
            obtain ⟨nspot_271, nfrom_272, ntoken_273, nvalue_274⟩ := u_268
            generalize H1 = H at hw270 ⊢
            have hw275 : WD D A s.heap (MW cI cJ M mr (upd (upd (upd (upd (upd (upd (upd (upd (upd mi 22 nspot_271) 23 nfrom_272) 24 ntoken_273) 25 nvalue_274) 34 x_14) 35 v_256) 37 npendings_264) 38 x_15) 39 x_16) (va_up (va_up (va_up mf 31 g_19) 32 g_20) 36 gpending_263) mg) H locs := hw270
            obtain ⟨hp_276, hp_277, hp_278, hp_279, hp_280, hp_281, hp_282⟩ := hp
            have hp_276 : 0 ≤ nfrom_272.toInt := hp_276
            have hp_277 : nfrom_272.toInt ≤ nspot_271.toInt := hp_277
            have hp_278 : nspot_271.toInt ≤ (mi 21).toInt := hp_278
            have hp_279 : 0 ≤ ntoken_273.toInt := hp_279
            have hp_280 : ntoken_273.toInt ≤ 4 := hp_280
            have hp_281 : ntoken_273.toInt ≤ 4 * nspot_271.toInt - 4 * nfrom_272.toInt := hp_281
            have hp_282 : x_10.toInt ≤ nfrom_272.toInt := hp_282
            refine lv_goto (pc := 84) (tgt := 9) E.1 E.2.1 dX12_readAny_84 (by decide) ?_
            have hra_283 : RA (mf 31) (mf 32) (800 + ((mi 34).toInt).toNat) g_19 g_20 (800 + (x_14.toInt).toNat) gpending_263 (npendings_264.toInt).toNat v_256.toInt x_8.toInt 0 := RA_pn (RA_open hra_245 hp_267.1 hp_267.2 (opn' := v_256.toInt) (br' := x_8.toInt) (by omega) (Or.inl ⟨rfl, rfl⟩)) (by omega) rfl rfl
            have hb_284 := RA_br hra_283
            have hb_284o : 0 ≤ v_256.toInt := hb_284.2.2
            have hb_284b : 0 ≤ x_8.toInt := hb_284.1
            have hb_284c : x_8.toInt ≤ npendings_264.toInt := by have q := hb_284.2.1; omega
            have hra_283p : npendings_264.toInt ≤ 26 := by have q := RA_pend hra_283 (by omega); omega
            exact ih_22 x_8 x_9 nspot_271 nfrom_272 ntoken_273 nvalue_274 x_14 x_15 x_16 npendings_264 v_256 g_19 g_20 gpending_263 _ _ _ ⟨(by show 0 ≤ nfrom_272.toInt; omega), (by show nfrom_272.toInt ≤ nspot_271.toInt; omega), (by show nspot_271.toInt ≤ (mi 21).toInt; omega), (by show 0 ≤ ntoken_273.toInt; omega), (by show ntoken_273.toInt ≤ 4; omega), (by show ntoken_273.toInt ≤ 4 * nspot_271.toInt - 4 * nfrom_272.toInt; omega), (by show 0 ≤ x_14.toInt; omega), (by show 0 ≤ v_256.toInt; omega), (by show v_256.toInt ≤ 8; omega), (by show 0 ≤ npendings_264.toInt; omega), (by show npendings_264.toInt ≤ 26; omega), (by show 0 ≤ x_8.toInt; omega), (by show x_8.toInt ≤ npendings_264.toInt; omega), (by show 0 ≤ x_9.toInt; omega), (by show x_9.toInt ≤ 1; omega), (by show (mi 23).toInt - (mi 34).toInt ≤ nfrom_272.toInt - x_14.toInt - npendings_264.toInt; omega), (by show (mi 23).toInt + 1 - x_9.toInt ≤ nfrom_272.toInt; omega), (RA_pn hra_283 rfl (by first | rfl | decide +kernel | omega) rfl), (fun h => absurd h (by omega))⟩ (by omega) hw275 (lv_sub hl253 [1, 2, 3] rfl)
          · skip
            have hc_255 := eqE (a := x_18.toInt) (b := 8) rfl (by decide +kernel) c_255
            refine lv_aload_n (pc := 41) E.1 E.2.1 dX12_readAny_41 rfl (lv_at hl253 3 rfl) ?_
            refine lv_iconst (pc := 42) (v := 3) E.1 E.2.1 dX12_readAny_42 (by decide +kernel) ?_
            refine cm_i (pc := 43) hw249 (rn_M (As := [.int 3]) (rest := []) E hw249 (s_errs2 l D cI cJ _ M mr (upd (upd (upd (upd (upd (upd (upd (upd (upd mi 22 x_10) 23 x_11) 24 x_12) 25 x_13) 34 x_14) 35 x_18) 37 x_17) 38 x_15) 39 x_16) (va_up (va_up (va_up mf 31 g_19) 32 g_20) 36 g_21) mg 3) (gdV q_1698 q_1700 q_60 q_162 q_1701) hdV_X12_errs ⟨rfl, rfl⟩ ⟨(Nat.le_of_ble_eq_true rfl), (Nat.le_of_ble_eq_true rfl)⟩ ⟨(Nat.le_of_ble_eq_true rfl), (Nat.le_of_ble_eq_true rfl)⟩ 12 rfl rfl rfl rfl hl253.1 rfl (Nat.le_of_ble_eq_true rfl) dX12_readAny_43) (fun r_286 u_285 H1 locs hp hw287 => ?_)
            obtain ⟨nreadFault_288, nreadPlace_289⟩ := u_285
            generalize H1 = H at hw287 ⊢
            have hw290 : WD D A s.heap (MW cI cJ M mr (upd (upd (upd (upd (upd (upd (upd (upd (upd mi 22 x_10) 23 x_11) 24 x_12) 25 x_13) 34 x_14) 35 x_18) 37 x_17) 38 nreadFault_288) 39 nreadPlace_289) (va_up (va_up (va_up mf 31 g_19) 32 g_20) 36 g_21) mg) H locs := hw287
            have hp_291 := hp
            rcases hp_291 with rfl
            · skip
              exact em_i (w1 := (fun (u : Int32 × Int32 × Int32 × Int32 × (Nat → Int32) × (Nat → Int32) × Int32 × Int32 × Int32 × (Nat → Int32) × Int32 × Int32) => (MW cI cJ M mr (upd (upd (upd (upd (upd (upd (upd (upd (upd mi 22 u.1) 23 u.2.1) 24 u.2.2.1) 25 u.2.2.2.1) 34 u.2.2.2.2.2.2.1) 38 u.2.2.2.2.2.2.2.1) 39 u.2.2.2.2.2.2.2.2.1) 37 u.2.2.2.2.2.2.2.2.2.2.1) 35 u.2.2.2.2.2.2.2.2.2.2.2) (va_up (va_up (va_up mf 31 u.2.2.2.2.1) 32 u.2.2.2.2.2.1) 36 u.2.2.2.2.2.2.2.2.2.1) mg))) E hr hlk (x_10, x_11, x_12, x_13, g_19, g_20, x_14, nreadFault_288, nreadPlace_289, g_21, x_17, x_18) hw290 ⟨(by show 0 ≤ x_11.toInt; have k_0 : ((-1) : Int32).toInt = -1 := (by decide +kernel); omega), (by show x_11.toInt ≤ x_10.toInt; have k_0 : ((-1) : Int32).toInt = -1 := (by decide +kernel); omega), (by show x_10.toInt ≤ (mi 21).toInt; have k_0 : ((-1) : Int32).toInt = -1 := (by decide +kernel); omega), (by show 0 ≤ x_12.toInt; have k_0 : ((-1) : Int32).toInt = -1 := (by decide +kernel); omega), (by show x_12.toInt ≤ 4; have k_0 : ((-1) : Int32).toInt = -1 := (by decide +kernel); omega), (by show x_12.toInt ≤ 4 * x_10.toInt - 4 * x_11.toInt; have k_0 : ((-1) : Int32).toInt = -1 := (by decide +kernel); omega), (by show 0 ≤ x_14.toInt; have k_0 : ((-1) : Int32).toInt = -1 := (by decide +kernel); omega), (by show x_14.toInt ≤ x_11.toInt; have k_0 : ((-1) : Int32).toInt = -1 := (by decide +kernel); omega), (by show 0 ≤ x_18.toInt; have k_0 : ((-1) : Int32).toInt = -1 := (by decide +kernel); omega), (by show x_18.toInt ≤ 8; have k_0 : ((-1) : Int32).toInt = -1 := (by decide +kernel); omega), (fun h => absurd h (by decide +kernel)), (Or.inl rfl)⟩ (Nat.le_of_ble_eq_true rfl) (Nat.le_of_ble_eq_true rfl) dX12_readAny_46
        · skip
          refine lv_istore_n (pc := 18) (lv' := [(3, .int 0), (2, .int x_9), (1, .int x_8), (0, .ref M)]) E.1 E.2.1 dX12_readAny_18 rfl hl24 (by decide) rfl (fun ls hl292 => ?_)
          refine lv_iload_n (pc := 19) E.1 E.2.1 dX12_readAny_19 rfl (lv_at hl292 0 rfl) ?_
          refine lv_if_ne (pc := 20) (tgt := 32) E.1 E.2.1 dX12_readAny_20 (by decide) (fun c_293 => absurd (meqE (a := 0) (b := 0) (by decide +kernel) (by decide +kernel) (by omega)) c_293) (fun _ => ?_)
          refine lv_aload_n (pc := 23) E.1 E.2.1 dX12_readAny_23 rfl (lv_at hl292 3 rfl) ?_
          refine lv_bipush (pc := 24) (v := 40) E.1 E.2.1 dX12_readAny_24 (by decide +kernel) ?_
          refine cm_i (pc := 26) hw249 (rn_M (As := [.int 40]) (rest := []) E hw249 (s_isSign2 l D cI cJ _ M mr (upd (upd (upd (upd (upd (upd (upd (upd (upd mi 22 x_10) 23 x_11) 24 x_12) 25 x_13) 34 x_14) 35 x_18) 37 x_17) 38 x_15) 39 x_16) (va_up (va_up (va_up mf 31 g_19) 32 g_20) 36 g_21) mg 40) (gdV q_1718 q_1720 q_65 q_162 q_1721) hdV_X12_isSign ⟨rfl, rfl⟩ ⟨(Nat.le_of_ble_eq_true rfl), (Nat.le_of_ble_eq_true rfl)⟩ ⟨(Nat.le_of_ble_eq_true rfl), (Nat.le_of_ble_eq_true rfl)⟩ 12 rfl rfl rfl rfl hl292.1 rfl (Nat.le_of_ble_eq_true rfl) dX12_readAny_26) (fun r_295 u_294 H1 locs hp hw296 => ?_)
          generalize H1 = H at hw296 ⊢
          have hw297 : WD D A s.heap (MW cI cJ M mr (upd (upd (upd (upd (upd (upd (upd (upd (upd mi 22 x_10) 23 x_11) 24 x_12) 25 x_13) 34 x_14) 35 x_18) 37 x_17) 38 x_15) 39 x_16) (va_up (va_up (va_up mf 31 g_19) 32 g_20) 36 g_21) mg) H locs := hw296
          have hp_298 := hp
          rcases hp_298 with ⟨rfl, ha_299, ha_300⟩ | rfl
          · skip
            have ha_299 : x_12.toInt = 4 := ha_299
            have ha_300 : x_13.toInt = (40 : Int32).toInt := ha_300
            rw [show (40 : Int32).toInt = 40 from by decide +kernel] at ha_300
            refine lv_if_eq (pc := 29) (tgt := 87) E.1 E.2.1 dX12_readAny_29 (by decide) (fun c_301 => absurd c_301 (mneE (a := 1) (b := 0) (by decide +kernel) (by decide +kernel) (by omega))) (fun _ => ?_)
            refine lv_aload_n (pc := 32) E.1 E.2.1 dX12_readAny_32 rfl (lv_at hl292 3 rfl) ?_
            refine x_get (pc := 33) (T := TX12) (N := 70) (ci := 12) (v := .int x_18) E hw297 inX12 0 35 q_1434 rfl rfl (by decide) rfl rfl dX12_readAny_33 ?_
            refine lv_bipush (pc := 36) (v := 8) E.1 E.2.1 dX12_readAny_36 (by decide +kernel) ?_
            refine lv_icmp_ne (pc := 38) (tgt := 47) E.1 E.2.1 dX12_readAny_38 (by decide) (fun c_302 => ?_) (fun c_302 => ?_)
            · skip
              have hc_302 := neE (a := x_18.toInt) (b := 8) rfl (by decide +kernel) c_302
              refine lv_aload_n (pc := 47) E.1 E.2.1 dX12_readAny_47 rfl (lv_at hl292 3 rfl) ?_
              refine lv_aload_n (pc := 48) E.1 E.2.1 dX12_readAny_48 rfl (lv_at hl292 3 rfl) ?_
              refine x_get (pc := 49) (T := TX12) (N := 70) (ci := 12) (v := .int x_18) E hw297 inX12 0 35 q_1434 rfl rfl (by decide) rfl rfl dX12_readAny_49 ?_
              refine lv_iconst (pc := 52) (v := 1) E.1 E.2.1 dX12_readAny_52 (by decide +kernel) ?_
              refine lv_iadd (pc := 53) E.1 E.2.1 dX12_readAny_53 ?_
              refine lv_topi (fun v_303 ev_303 => ?_)
              have hv_303 : v_303.toInt = x_18.toInt + 1 := by rw [ev_303]; exact addE rfl (by decide +kernel) (by omega)
              refine x_put (pc := 54) (T := TX12) (N := 70) (ci := 12) (ws' := (MW cI cJ M mr (upd (upd (upd (upd (upd (upd (upd (upd (upd mi 22 x_10) 23 x_11) 24 x_12) 25 x_13) 34 x_14) 35 v_303) 37 x_17) 38 x_15) 39 x_16) (va_up (va_up (va_up mf 31 g_19) 32 g_20) 36 g_21) mg)) E hw297 inX12 tyX12_ok nmX12 0 35 q_1434 rfl rfl (by decide) rfl rfl rfl rfl (Nat.le_of_ble_eq_true rfl) rfl dX12_readAny_54 (fun H locs hw304 => ?_)
              refine lv_iload_n (pc := 57) E.1 E.2.1 dX12_readAny_57 rfl (lv_at hl292 0 rfl) ?_
              refine lv_if_ne (pc := 58) (tgt := 65) E.1 E.2.1 dX12_readAny_58 (by decide) (fun c_305 => absurd (meqE (a := 0) (b := 0) (by decide +kernel) (by decide +kernel) (by omega)) c_305) (fun _ => ?_)
              refine lv_iload_n (pc := 61) E.1 E.2.1 dX12_readAny_61 rfl (lv_at hl292 2 rfl) ?_
              refine lv_iconst (pc := 62) (v := 1) E.1 E.2.1 dX12_readAny_62 (by decide +kernel) ?_
              refine lv_iadd (pc := 63) E.1 E.2.1 dX12_readAny_63 ?_
              refine lv_topi (fun v_306 ev_306 => ?_)
              have hv_306 : v_306.toInt = x_8.toInt + 1 := by rw [ev_306]; exact addE rfl (by decide +kernel) (by omega)
              refine lv_istore_n (pc := 64) (lv' := [(1, .int v_306), (3, .int 0), (2, .int x_9), (0, .ref M)]) E.1 E.2.1 dX12_readAny_64 rfl hl292 (by decide) rfl (fun ls hl307 => ?_)
              refine lv_aload_n (pc := 65) E.1 E.2.1 dX12_readAny_65 rfl (lv_at hl307 3 rfl) ?_
              refine lv_iload_n (pc := 66) E.1 E.2.1 dX12_readAny_66 rfl (lv_at hl307 1 rfl) ?_
              refine lv_if_eq (pc := 67) (tgt := 75) E.1 E.2.1 dX12_readAny_67 (by decide) (fun _ => ?_) (fun c_308 => absurd (meqE (a := 0) (b := 0) (by decide +kernel) (by decide +kernel) (by omega)) c_308)
              refine lv_bipush (pc := 75) (v := 12) E.1 E.2.1 dX12_readAny_75 (by decide +kernel) ?_
              refine cm_v (pc := 77) hw304 (rn_M (As := [.int 12]) (rest := []) E hw304 (s_waits2 l D cI cJ _ M mr (upd (upd (upd (upd (upd (upd (upd (upd (upd mi 22 x_10) 23 x_11) 24 x_12) 25 x_13) 34 x_14) 35 v_303) 37 x_17) 38 x_15) 39 x_16) (va_up (va_up (va_up mf 31 g_19) 32 g_20) 36 g_21) mg 12 (by show 0 ≤ x_17.toInt ∧ x_17.toInt ≤ 39; omega)) (gdV q_1794 q_1796 q_84 q_162 q_1797) hdV_X12_waits ⟨rfl, rfl⟩ ⟨(Nat.le_of_ble_eq_true rfl), (Nat.le_of_ble_eq_true rfl)⟩ ⟨(Nat.le_of_ble_eq_true rfl), (Nat.le_of_ble_eq_true rfl)⟩ 12 rfl rfl rfl rfl hl307.1 rfl (Nat.le_of_ble_eq_true rfl) dX12_readAny_77) (fun u_309 H1 locs hp hw311 => ?_)
              obtain ⟨gpending_312, npendings_313⟩ := u_309
              generalize H1 = H at hw311 ⊢
              have hw314 : WD D A s.heap (MW cI cJ M mr (upd (upd (upd (upd (upd (upd (upd (upd (upd mi 22 x_10) 23 x_11) 24 x_12) 25 x_13) 34 x_14) 35 v_303) 37 npendings_313) 38 x_15) 39 x_16) (va_up (va_up (va_up mf 31 g_19) 32 g_20) 36 gpending_312) mg) H locs := hw311
              obtain ⟨hp_315, hp_316⟩ := hp
              have hp_315 : npendings_313.toInt = x_17.toInt + 1 := hp_315
              have hp_316 : gpending_312 ((x_17.toInt).toNat) = (12 : Int32) ∧ ∀ j : Nat, j < (x_17.toInt).toNat → gpending_312 j = g_21 j := hp_316
              refine lv_aload_n (pc := 80) E.1 E.2.1 dX12_readAny_80 rfl (lv_at hl307 3 rfl) ?_
              refine cm_v (pc := 81) hw314 (rn_M (As := []) (rest := []) E hw314 (s_reads l D cI cJ _ M mr (upd (upd (upd (upd (upd (upd (upd (upd (upd mi 22 x_10) 23 x_11) 24 x_12) 25 x_13) 34 x_14) 35 v_303) 37 npendings_313) 38 x_15) 39 x_16) (va_up (va_up (va_up mf 31 g_19) 32 g_20) 36 gpending_312) mg (by show 0 ≤ x_10.toInt; omega) (by show x_10.toInt ≤ (mi 21).toInt; omega) (by show (mi 21).toInt ≤ 400; omega) (by show ((mf 26) 153).toInt = 32; omega)) (gdV q_1666 q_1668 q_52 q_162 q_1669) hdV_X12_reads ⟨rfl, rfl⟩ ⟨(Nat.le_of_ble_eq_true rfl), (Nat.le_of_ble_eq_true rfl)⟩ ⟨(Nat.le_of_ble_eq_true rfl), (Nat.le_of_ble_eq_true rfl)⟩ 12 rfl rfl rfl rfl hl307.1 rfl (Nat.le_of_ble_eq_true rfl) dX12_readAny_81) (fun u_317 H1 locs hp hw319 => ?_)
              obtain ⟨nspot_320, nfrom_321, ntoken_322, nvalue_323⟩ := u_317
              generalize H1 = H at hw319 ⊢
              have hw324 : WD D A s.heap (MW cI cJ M mr (upd (upd (upd (upd (upd (upd (upd (upd (upd mi 22 nspot_320) 23 nfrom_321) 24 ntoken_322) 25 nvalue_323) 34 x_14) 35 v_303) 37 npendings_313) 38 x_15) 39 x_16) (va_up (va_up (va_up mf 31 g_19) 32 g_20) 36 gpending_312) mg) H locs := hw319
              obtain ⟨hp_325, hp_326, hp_327, hp_328, hp_329, hp_330, hp_331⟩ := hp
              have hp_325 : 0 ≤ nfrom_321.toInt := hp_325
              have hp_326 : nfrom_321.toInt ≤ nspot_320.toInt := hp_326
              have hp_327 : nspot_320.toInt ≤ (mi 21).toInt := hp_327
              have hp_328 : 0 ≤ ntoken_322.toInt := hp_328
              have hp_329 : ntoken_322.toInt ≤ 4 := hp_329
              have hp_330 : ntoken_322.toInt ≤ 4 * nspot_320.toInt - 4 * nfrom_321.toInt := hp_330
              have hp_331 : x_10.toInt ≤ nfrom_321.toInt := hp_331
              refine lv_goto (pc := 84) (tgt := 9) E.1 E.2.1 dX12_readAny_84 (by decide) ?_
              have hra_332 : RA (mf 31) (mf 32) (800 + ((mi 34).toInt).toNat) g_19 g_20 (800 + (x_14.toInt).toNat) gpending_312 (npendings_313.toInt).toNat v_303.toInt v_306.toInt 0 := RA_pn (RA_open hra_245 hp_316.1 hp_316.2 (opn' := v_303.toInt) (br' := v_306.toInt) (by omega) (Or.inr ⟨rfl, by omega⟩)) (by omega) rfl rfl
              have hb_333 := RA_br hra_332
              have hb_333o : 0 ≤ v_303.toInt := hb_333.2.2
              have hb_333b : 0 ≤ v_306.toInt := hb_333.1
              have hb_333c : v_306.toInt ≤ npendings_313.toInt := by have q := hb_333.2.1; omega
              have hra_332p : npendings_313.toInt ≤ 26 := by have q := RA_pend hra_332 (by omega); omega
              exact ih_22 v_306 x_9 nspot_320 nfrom_321 ntoken_322 nvalue_323 x_14 x_15 x_16 npendings_313 v_303 g_19 g_20 gpending_312 _ _ _ ⟨(by show 0 ≤ nfrom_321.toInt; omega), (by show nfrom_321.toInt ≤ nspot_320.toInt; omega), (by show nspot_320.toInt ≤ (mi 21).toInt; omega), (by show 0 ≤ ntoken_322.toInt; omega), (by show ntoken_322.toInt ≤ 4; omega), (by show ntoken_322.toInt ≤ 4 * nspot_320.toInt - 4 * nfrom_321.toInt; omega), (by show 0 ≤ x_14.toInt; omega), (by show 0 ≤ v_303.toInt; omega), (by show v_303.toInt ≤ 8; omega), (by show 0 ≤ npendings_313.toInt; omega), (by show npendings_313.toInt ≤ 26; omega), (by show 0 ≤ v_306.toInt; omega), (by show v_306.toInt ≤ npendings_313.toInt; omega), (by show 0 ≤ x_9.toInt; omega), (by show x_9.toInt ≤ 1; omega), (by show (mi 23).toInt - (mi 34).toInt ≤ nfrom_321.toInt - x_14.toInt - npendings_313.toInt; omega), (by show (mi 23).toInt + 1 - x_9.toInt ≤ nfrom_321.toInt; omega), (RA_pn hra_332 rfl (by first | rfl | decide +kernel | omega) rfl), (fun h => absurd h (by omega))⟩ (by omega) hw324 (lv_sub hl307 [2, 0, 3] rfl)
            · skip
              have hc_302 := eqE (a := x_18.toInt) (b := 8) rfl (by decide +kernel) c_302
              refine lv_aload_n (pc := 41) E.1 E.2.1 dX12_readAny_41 rfl (lv_at hl292 3 rfl) ?_
              refine lv_iconst (pc := 42) (v := 3) E.1 E.2.1 dX12_readAny_42 (by decide +kernel) ?_
              refine cm_i (pc := 43) hw297 (rn_M (As := [.int 3]) (rest := []) E hw297 (s_errs2 l D cI cJ _ M mr (upd (upd (upd (upd (upd (upd (upd (upd (upd mi 22 x_10) 23 x_11) 24 x_12) 25 x_13) 34 x_14) 35 x_18) 37 x_17) 38 x_15) 39 x_16) (va_up (va_up (va_up mf 31 g_19) 32 g_20) 36 g_21) mg 3) (gdV q_1698 q_1700 q_60 q_162 q_1701) hdV_X12_errs ⟨rfl, rfl⟩ ⟨(Nat.le_of_ble_eq_true rfl), (Nat.le_of_ble_eq_true rfl)⟩ ⟨(Nat.le_of_ble_eq_true rfl), (Nat.le_of_ble_eq_true rfl)⟩ 12 rfl rfl rfl rfl hl292.1 rfl (Nat.le_of_ble_eq_true rfl) dX12_readAny_43) (fun r_335 u_334 H1 locs hp hw336 => ?_)
              obtain ⟨nreadFault_337, nreadPlace_338⟩ := u_334
              generalize H1 = H at hw336 ⊢
              have hw339 : WD D A s.heap (MW cI cJ M mr (upd (upd (upd (upd (upd (upd (upd (upd (upd mi 22 x_10) 23 x_11) 24 x_12) 25 x_13) 34 x_14) 35 x_18) 37 x_17) 38 nreadFault_337) 39 nreadPlace_338) (va_up (va_up (va_up mf 31 g_19) 32 g_20) 36 g_21) mg) H locs := hw336
              have hp_340 := hp
              rcases hp_340 with rfl
              · skip
                exact em_i (w1 := (fun (u : Int32 × Int32 × Int32 × Int32 × (Nat → Int32) × (Nat → Int32) × Int32 × Int32 × Int32 × (Nat → Int32) × Int32 × Int32) => (MW cI cJ M mr (upd (upd (upd (upd (upd (upd (upd (upd (upd mi 22 u.1) 23 u.2.1) 24 u.2.2.1) 25 u.2.2.2.1) 34 u.2.2.2.2.2.2.1) 38 u.2.2.2.2.2.2.2.1) 39 u.2.2.2.2.2.2.2.2.1) 37 u.2.2.2.2.2.2.2.2.2.2.1) 35 u.2.2.2.2.2.2.2.2.2.2.2) (va_up (va_up (va_up mf 31 u.2.2.2.2.1) 32 u.2.2.2.2.2.1) 36 u.2.2.2.2.2.2.2.2.2.1) mg))) E hr hlk (x_10, x_11, x_12, x_13, g_19, g_20, x_14, nreadFault_337, nreadPlace_338, g_21, x_17, x_18) hw339 ⟨(by show 0 ≤ x_11.toInt; have k_0 : ((-1) : Int32).toInt = -1 := (by decide +kernel); omega), (by show x_11.toInt ≤ x_10.toInt; have k_0 : ((-1) : Int32).toInt = -1 := (by decide +kernel); omega), (by show x_10.toInt ≤ (mi 21).toInt; have k_0 : ((-1) : Int32).toInt = -1 := (by decide +kernel); omega), (by show 0 ≤ x_12.toInt; have k_0 : ((-1) : Int32).toInt = -1 := (by decide +kernel); omega), (by show x_12.toInt ≤ 4; have k_0 : ((-1) : Int32).toInt = -1 := (by decide +kernel); omega), (by show x_12.toInt ≤ 4 * x_10.toInt - 4 * x_11.toInt; have k_0 : ((-1) : Int32).toInt = -1 := (by decide +kernel); omega), (by show 0 ≤ x_14.toInt; have k_0 : ((-1) : Int32).toInt = -1 := (by decide +kernel); omega), (by show x_14.toInt ≤ x_11.toInt; have k_0 : ((-1) : Int32).toInt = -1 := (by decide +kernel); omega), (by show 0 ≤ x_18.toInt; have k_0 : ((-1) : Int32).toInt = -1 := (by decide +kernel); omega), (by show x_18.toInt ≤ 8; have k_0 : ((-1) : Int32).toInt = -1 := (by decide +kernel); omega), (fun h => absurd h (by decide +kernel)), (Or.inl rfl)⟩ (Nat.le_of_ble_eq_true rfl) (Nat.le_of_ble_eq_true rfl) dX12_readAny_46
          · skip
            refine lv_if_eq (pc := 29) (tgt := 87) E.1 E.2.1 dX12_readAny_29 (by decide) (fun _ => ?_) (fun c_341 => absurd (meqE (a := 0) (b := 0) (by decide +kernel) (by decide +kernel) (by omega)) c_341)
            refine lv_aload_n (pc := 87) E.1 E.2.1 dX12_readAny_87 rfl (lv_at hl292 3 rfl) ?_
            refine cm_i (pc := 88) hw297 (rn_M (As := []) (rest := []) E hw297 (s_readCompared l D cI cJ _ M mr (upd (upd (upd (upd (upd (upd (upd (upd (upd mi 22 x_10) 23 x_11) 24 x_12) 25 x_13) 34 x_14) 35 x_18) 37 x_17) 38 x_15) 39 x_16) (va_up (va_up (va_up mf 31 g_19) 32 g_20) 36 g_21) mg (by show 0 ≤ x_11.toInt; omega) (by show x_11.toInt ≤ x_10.toInt; omega) (by show x_10.toInt ≤ (mi 21).toInt; omega) (by show (mi 21).toInt ≤ 400; omega) (by show 0 ≤ x_12.toInt; omega) (by show x_12.toInt ≤ 4; omega) (by show x_12.toInt ≤ 4 * x_10.toInt - 4 * x_11.toInt; omega) (by show ((mf 26) 153).toInt = 32; omega) (by show 0 ≤ x_14.toInt; omega) (by show x_14.toInt ≤ x_11.toInt; omega)) (gdV q_1798 q_1800 q_85 q_162 q_1801) hdV_X12_readCompared ⟨rfl, rfl⟩ ⟨(Nat.le_of_ble_eq_true rfl), (Nat.le_of_ble_eq_true rfl)⟩ ⟨(Nat.le_of_ble_eq_true rfl), (Nat.le_of_ble_eq_true rfl)⟩ 12 rfl rfl rfl rfl hl292.1 rfl (Nat.le_of_ble_eq_true rfl) dX12_readAny_88) (fun r_343 u_342 H1 locs hp hw344 => ?_)
            obtain ⟨nspot_345, nfrom_346, ntoken_347, nvalue_348, gop_349, garg_350, ncodes_351, nreadFault_352, nreadPlace_353⟩ := u_342
            generalize H1 = H at hw344 ⊢
            have hw354 : WD D A s.heap (MW cI cJ M mr (upd (upd (upd (upd (upd (upd (upd (upd (upd mi 22 nspot_345) 23 nfrom_346) 24 ntoken_347) 25 nvalue_348) 34 ncodes_351) 35 x_18) 37 x_17) 38 nreadFault_352) 39 nreadPlace_353) (va_up (va_up (va_up mf 31 gop_349) 32 garg_350) 36 g_21) mg) H locs := hw344
            obtain ⟨hp_355, hp_356, hp_357, hp_358, hp_359, hp_360, hp_361, hp_362, hp_363, hp_364⟩ := hp
            have hp_355 : 0 ≤ nfrom_346.toInt := hp_355
            have hp_356 : nfrom_346.toInt ≤ nspot_345.toInt := hp_356
            have hp_357 : nspot_345.toInt ≤ (mi 21).toInt := hp_357
            have hp_358 : 0 ≤ ntoken_347.toInt := hp_358
            have hp_359 : ntoken_347.toInt ≤ 4 := hp_359
            have hp_360 : ntoken_347.toInt ≤ 4 * nspot_345.toInt - 4 * nfrom_346.toInt := hp_360
            have hp_361 : 0 ≤ ncodes_351.toInt := hp_361
            have hp_362 : ncodes_351.toInt ≤ nfrom_346.toInt := hp_362
            have hp_363 : r_343 = 0 → TX g_19 g_20 (800 + (x_14.toInt).toNat) gop_349 garg_350 (800 + (ncodes_351.toInt).toNat) := hp_363
            rcases hp_364 with rfl | ⟨rfl, ha_365, ha_366⟩
            · skip
              refine lv_iconst (pc := 91) (v := (-1)) E.1 E.2.1 dX12_readAny_91 (by decide +kernel) ?_
              refine lv_icmp_ne (pc := 92) (tgt := 97) E.1 E.2.1 dX12_readAny_92 (by decide) (fun c_367 => absurd (meqE (a := (-1)) (b := (-1)) (by decide +kernel) (by decide +kernel) (by omega)) c_367) (fun _ => ?_)
              refine lv_iconst (pc := 95) (v := (-1)) E.1 E.2.1 dX12_readAny_95 (by decide +kernel) ?_
              exact em_i (w1 := (fun (u : Int32 × Int32 × Int32 × Int32 × (Nat → Int32) × (Nat → Int32) × Int32 × Int32 × Int32 × (Nat → Int32) × Int32 × Int32) => (MW cI cJ M mr (upd (upd (upd (upd (upd (upd (upd (upd (upd mi 22 u.1) 23 u.2.1) 24 u.2.2.1) 25 u.2.2.2.1) 34 u.2.2.2.2.2.2.1) 38 u.2.2.2.2.2.2.2.1) 39 u.2.2.2.2.2.2.2.2.1) 37 u.2.2.2.2.2.2.2.2.2.2.1) 35 u.2.2.2.2.2.2.2.2.2.2.2) (va_up (va_up (va_up mf 31 u.2.2.2.2.1) 32 u.2.2.2.2.2.1) 36 u.2.2.2.2.2.2.2.2.2.1) mg))) E hr hlk (nspot_345, nfrom_346, ntoken_347, nvalue_348, gop_349, garg_350, ncodes_351, nreadFault_352, nreadPlace_353, g_21, x_17, x_18) hw354 ⟨(by show 0 ≤ nfrom_346.toInt; have k_0 : ((-1) : Int32).toInt = -1 := (by decide +kernel); omega), (by show nfrom_346.toInt ≤ nspot_345.toInt; have k_0 : ((-1) : Int32).toInt = -1 := (by decide +kernel); omega), (by show nspot_345.toInt ≤ (mi 21).toInt; have k_0 : ((-1) : Int32).toInt = -1 := (by decide +kernel); omega), (by show 0 ≤ ntoken_347.toInt; have k_0 : ((-1) : Int32).toInt = -1 := (by decide +kernel); omega), (by show ntoken_347.toInt ≤ 4; have k_0 : ((-1) : Int32).toInt = -1 := (by decide +kernel); omega), (by show ntoken_347.toInt ≤ 4 * nspot_345.toInt - 4 * nfrom_346.toInt; have k_0 : ((-1) : Int32).toInt = -1 := (by decide +kernel); omega), (by show 0 ≤ ncodes_351.toInt; have k_0 : ((-1) : Int32).toInt = -1 := (by decide +kernel); omega), (by show ncodes_351.toInt ≤ nfrom_346.toInt; have k_0 : ((-1) : Int32).toInt = -1 := (by decide +kernel); omega), (by show 0 ≤ x_18.toInt; have k_0 : ((-1) : Int32).toInt = -1 := (by decide +kernel); omega), (by show x_18.toInt ≤ 8; have k_0 : ((-1) : Int32).toInt = -1 := (by decide +kernel); omega), (fun h => absurd h (by decide +kernel)), (Or.inl rfl)⟩ (Nat.le_of_ble_eq_true rfl) (Nat.le_of_ble_eq_true rfl) dX12_readAny_96
            · skip
              have hp_363 := hp_363 rfl
              have ha_365 : x_11.toInt - x_14.toInt ≤ nfrom_346.toInt - ncodes_351.toInt := ha_365
              have ha_366 : x_11.toInt + 1 ≤ nfrom_346.toInt := ha_366
              refine lv_iconst (pc := 91) (v := (-1)) E.1 E.2.1 dX12_readAny_91 (by decide +kernel) ?_
              refine lv_icmp_ne (pc := 92) (tgt := 97) E.1 E.2.1 dX12_readAny_92 (by decide) (fun _ => ?_) (fun c_368 => absurd c_368 (mneE (a := 0) (b := (-1)) (by decide +kernel) (by decide +kernel) (by omega)))
              refine lv_aload_n (pc := 97) E.1 E.2.1 dX12_readAny_97 rfl (lv_at hl292 3 rfl) ?_
              refine lv_bipush (pc := 98) (v := 9) E.1 E.2.1 dX12_readAny_98 (by decide +kernel) ?_
              refine cm_v (pc := 100) hw354 (rn_M (As := [.int 9]) (rest := []) E hw354 (s_settles9 l D cI cJ _ M mr (upd (upd (upd (upd (upd (upd (upd (upd (upd mi 22 nspot_345) 23 nfrom_346) 24 ntoken_347) 25 nvalue_348) 34 ncodes_351) 35 x_18) 37 x_17) 38 nreadFault_352) 39 nreadPlace_353) (va_up (va_up (va_up mf 31 gop_349) 32 garg_350) 36 g_21) mg (by show 0 ≤ x_17.toInt ∧ x_17.toInt ≤ 40; omega) (by show 0 ≤ ncodes_351.toInt; omega) (by show ncodes_351.toInt + x_17.toInt ≤ 400; omega) (by show 0 ≤ x_18.toInt ∧ x_18.toInt ≤ 8; omega)) (gdV q_1802 q_1804 q_86 q_162 q_1805) hdV_X12_settles ⟨rfl, rfl⟩ ⟨(Nat.le_of_ble_eq_true rfl), (Nat.le_of_ble_eq_true rfl)⟩ ⟨(Nat.le_of_ble_eq_true rfl), (Nat.le_of_ble_eq_true rfl)⟩ 12 rfl rfl rfl rfl hl292.1 rfl (Nat.le_of_ble_eq_true rfl) dX12_readAny_100) (fun u_369 H1 locs hp hw371 => ?_)
              obtain ⟨npendings_372, gop_373, garg_374, ncodes_375, nopen_376⟩ := u_369
              generalize H1 = H at hw371 ⊢
              have hw377 : WD D A s.heap (MW cI cJ M mr (upd (upd (upd (upd (upd (upd (upd (upd (upd mi 22 nspot_345) 23 nfrom_346) 24 ntoken_347) 25 nvalue_348) 34 ncodes_375) 35 nopen_376) 37 npendings_372) 38 nreadFault_352) 39 nreadPlace_353) (va_up (va_up (va_up mf 31 gop_373) 32 garg_374) 36 g_21) mg) H locs := hw371
              obtain ⟨hp_378, hp_379, hp_380, hp_381, hp_382, hp_383, hp_384⟩ := hp
              have hp_378 : 0 ≤ npendings_372.toInt := hp_378
              have hp_379 : npendings_372.toInt ≤ x_17.toInt := hp_379
              have hp_380 : ncodes_375.toInt + npendings_372.toInt = ncodes_351.toInt + x_17.toInt := hp_380
              have hp_381 : 0 ≤ ncodes_375.toInt := hp_381
              have hp_382 : nopen_376.toInt = x_18.toInt - x_17.toInt + npendings_372.toInt := hp_382
              have hp_383 : SE (9 : Int32) g_21 (x_17.toInt).toNat gop_349 garg_350 (800 + (ncodes_351.toInt).toNat) (npendings_372.toInt).toNat gop_373 garg_374 (800 + (ncodes_375.toInt).toNat) := hp_383
              have hp_384 : NT (9 : Int32) g_21 (npendings_372.toInt).toNat := hp_384
              refine lv_iconst (pc := 103) (v := 0) E.1 E.2.1 dX12_readAny_103 (by decide +kernel) ?_
              refine lv_istore_n (pc := 104) (lv' := [(2, .int 0), (3, .int 0), (1, .int x_8), (0, .ref M)]) E.1 E.2.1 dX12_readAny_104 rfl hl292 (by decide) rfl (fun ls hl385 => ?_)
              refine lv_goto (pc := 105) (tgt := 9) E.1 E.2.1 dX12_readAny_105 (by decide) ?_
              have hra_386 : RA (mf 31) (mf 32) (800 + ((mi 34).toInt).toNat) gop_373 garg_374 (800 + (ncodes_375.toInt).toNat) g_21 (npendings_372.toInt).toNat nopen_376.toInt x_8.toInt 1 := RA_not (RA_told hra_245 hp_363) hp_383 (by omega)
              have hb_387 := RA_br hra_386
              have hb_387o : 0 ≤ nopen_376.toInt := hb_387.2.2
              have hb_387b : 0 ≤ x_8.toInt := hb_387.1
              have hb_387c : x_8.toInt ≤ npendings_372.toInt := by have q := hb_387.2.1; omega
              have hra_386p : npendings_372.toInt ≤ 26 := by have q := RA_pend hra_386 (by omega); omega
              exact ih_22 x_8 0 nspot_345 nfrom_346 ntoken_347 nvalue_348 ncodes_375 nreadFault_352 nreadPlace_353 npendings_372 nopen_376 gop_373 garg_374 g_21 _ _ _ ⟨(by show 0 ≤ nfrom_346.toInt; omega), (by show nfrom_346.toInt ≤ nspot_345.toInt; omega), (by show nspot_345.toInt ≤ (mi 21).toInt; omega), (by show 0 ≤ ntoken_347.toInt; omega), (by show ntoken_347.toInt ≤ 4; omega), (by show ntoken_347.toInt ≤ 4 * nspot_345.toInt - 4 * nfrom_346.toInt; omega), (by show 0 ≤ ncodes_375.toInt; omega), (by show 0 ≤ nopen_376.toInt; omega), (by show nopen_376.toInt ≤ 8; omega), (by show 0 ≤ npendings_372.toInt; omega), (by show npendings_372.toInt ≤ 26; omega), (by show 0 ≤ x_8.toInt; omega), (by show x_8.toInt ≤ npendings_372.toInt; omega), (by show 0 ≤ (0 : Int32).toInt; have k_0 : (0 : Int32).toInt = 0 := (by decide +kernel); omega), (by show (0 : Int32).toInt ≤ 1; have k_0 : (0 : Int32).toInt = 0 := (by decide +kernel); omega), (by show (mi 23).toInt - (mi 34).toInt ≤ nfrom_346.toInt - ncodes_375.toInt - npendings_372.toInt; omega), (by show (mi 23).toInt + 1 - (0 : Int32).toInt ≤ nfrom_346.toInt; have k_0 : (0 : Int32).toInt = 0 := (by decide +kernel); omega), (RA_pn hra_386 rfl (by first | rfl | decide +kernel | omega) rfl), (fun _ => hp_384)⟩ (by have k_0 : (0 : Int32).toInt = 0 := (by decide +kernel); omega) hw377 (lv_sub hl385 [0, 2, 3] rfl)
  exact loop_7 (Int.toNat (2 * (mi 21).toInt - 2 * (mi 23).toInt + 1) + 1) 0 1 (mi 22) (mi 23) (mi 24) (mi 25) (mi 34) (mi 38) (mi 39) 0 (mi 35) (mf 31) (mf 32) (mf 36) _ _ _ ⟨(by show 0 ≤ (mi 23).toInt; omega), (by show (mi 23).toInt ≤ (mi 22).toInt; omega), (by show (mi 22).toInt ≤ (mi 21).toInt; omega), (by show 0 ≤ (mi 24).toInt; omega), (by show (mi 24).toInt ≤ 4; omega), (by show (mi 24).toInt ≤ 4 * (mi 22).toInt - 4 * (mi 23).toInt; omega), (by show 0 ≤ (mi 34).toInt; omega), (by show 0 ≤ (mi 35).toInt; omega), (by show (mi 35).toInt ≤ 8; omega), (by show 0 ≤ (0 : Int32).toInt; have k_0 : (0 : Int32).toInt = 0 := (by decide +kernel); omega), (by show (0 : Int32).toInt ≤ 26; have k_0 : (0 : Int32).toInt = 0 := (by decide +kernel); omega), (by show 0 ≤ (0 : Int32).toInt; have k_0 : (0 : Int32).toInt = 0 := (by decide +kernel); omega), (by show (0 : Int32).toInt ≤ (0 : Int32).toInt; have k_0 : (0 : Int32).toInt = 0 := (by decide +kernel); omega), (by show 0 ≤ (1 : Int32).toInt; have k_0 : (1 : Int32).toInt = 1 := (by decide +kernel); omega), (by show (1 : Int32).toInt ≤ 1; have k_0 : (1 : Int32).toInt = 1 := (by decide +kernel); omega), (by show (mi 23).toInt - (mi 34).toInt ≤ (mi 23).toInt - (mi 34).toInt - (0 : Int32).toInt; have k_0 : (0 : Int32).toInt = 0 := (by decide +kernel); omega), (by show (mi 23).toInt + 1 - (1 : Int32).toInt ≤ (mi 23).toInt; have k_0 : (1 : Int32).toInt = 1 := (by decide +kernel); omega), (RA_pn (RA_nil (by omega)) (by decide +kernel) (by decide +kernel) (by decide +kernel)), (fun h => absurd h (by decide +kernel))⟩ (by have k_0 : (0 : Int32).toInt = 0 := (by decide +kernel); have k_1 : (1 : Int32).toInt = 1 := (by decide +kernel); have k_9 : (0 : Int32).toInt = 0 := (by decide +kernel); omega) hw5 (lv_sub hl6 [0, 1, 2] rfl)
