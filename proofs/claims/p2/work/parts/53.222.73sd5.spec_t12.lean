set_option maxHeartbeats 4000000 in
set_option maxRecDepth 100000 in
theorem s_isStepT (l : Launch) (D : va_G) (cI cJ : ClassId) (sz M : Nat) (mr : Nat → Nat) (mi : Nat → Int32) (mf : Nat → Nat → Int32) (mg : Nat → Nat → Int64)   : Met l yX12_isStep (Cond.code yX12_isStep cX12_isStep 1 (some .boolean) :: GW) ({ frames := 2, cells := 0, slots := 0, locals := 61 } : Room) (va_Pc [.ref M] (PW D cI cJ sz (MW cI cJ M mr mi mf mg) xT)) (va_Qi (fun (r : Int32) (u : Unit) => ((r = 1 ∧ (mi 24).toInt = 2 ∧ (mi 25).toInt = 28) ∨ (r = 1 ∧ (mi 24).toInt = 2 ∧ (mi 25).toInt = 29) ∨ (r = 0 ∧ ¬ (mi 24).toInt = 2) ∨ (r = 0 ∧ ¬ (mi 25).toInt = 28 ∧ ¬ (mi 25).toInt = 29))) (fun u => QW D cI cJ (va_A (MW cI cJ M mr mi mf mg) sz) ((fun (u : Unit) => (MW cI cJ M mr mi mf mg)) u)) (va_A (MW cI cJ M mr mi mf mg) sz)) 0 0 (va_A (MW cI cJ M mr mi mf mg) sz) := by
  refine mk_met (y := yX12_isStep) (bytes := cX12_isStep) (maxL := 1) (avs := [.ref M]) (WS := (MW cI cJ M mr mi mf mg)) (Qf := fun A => va_Qi (fun (r : Int32) (u : Unit) => ((r = 1 ∧ (mi 24).toInt = 2 ∧ (mi 25).toInt = 28) ∨ (r = 1 ∧ (mi 24).toInt = 2 ∧ (mi 25).toInt = 29) ∨ (r = 0 ∧ ¬ (mi 24).toInt = 2) ∨ (r = 0 ∧ ¬ (mi 25).toInt = 28 ∧ ¬ (mi 25).toInt = 29))) (fun u => QW D cI cJ A ((fun (u : Unit) => (MW cI cJ M mr mi mf mg)) u)) A) (by decide) (Nat.le_of_ble_eq_true rfl) ?_
  intro p e s m below meth c A ls E hr hlk hnm hX hw1 hl2
  have hl3 : lv_has ls 1 [(0, .ref M)] := hl2
  refine lv_aload_n (pc := 0) E.1 E.2.1 dX12_isStep_0 rfl (lv_at hl3 0 rfl) ?_
  refine lv_bipush (pc := 1) (v := 28) E.1 E.2.1 dX12_isStep_1 (by decide +kernel) ?_
  refine cm_i (pc := 3) hw1 (rn_M (As := [.int 28]) (rest := []) E hw1 (s_isWordT l D cI cJ _ M mr mi mf mg 28) (gdV q_1694 q_1696 q_59 q_162 q_1697) hdV_X12_isWord ⟨rfl, rfl⟩ ⟨(Nat.le_of_ble_eq_true rfl), (Nat.le_of_ble_eq_true rfl)⟩ ⟨(Nat.le_of_ble_eq_true rfl), (Nat.le_of_ble_eq_true rfl)⟩ 12 rfl rfl rfl rfl hl3.1 rfl (Nat.le_of_ble_eq_true rfl) dX12_isStep_3) (fun r_5 u_4 H1 locs hp hw6 => ?_)
  generalize H1 = H at hw6 ⊢
  have hw7 : WD D A s.heap (MW cI cJ M mr mi mf mg) H locs := hw6
  have hp_8 := hp
  rcases hp_8 with ⟨rfl, ha_9, ha_10⟩ | ⟨rfl, ha_11⟩ | ⟨rfl, ha_12⟩
  · skip
    have ha_9 : (mi 24).toInt = 2 := ha_9
    have ha_10 : (mi 25).toInt = (28 : Int32).toInt := ha_10
    rw [show (28 : Int32).toInt = 28 from by decide +kernel] at ha_10
    refine lv_if_ne (pc := 6) (tgt := 18) E.1 E.2.1 dX12_isStep_6 (by decide) (fun _ => ?_) (fun c_13 => absurd c_13 (mneE (a := 1) (b := 0) (by decide +kernel) (by decide +kernel) (by omega)))
    refine lv_iconst (pc := 18) (v := 1) E.1 E.2.1 dX12_isStep_18 (by decide +kernel) ?_
    refine lv_goto (pc := 19) (tgt := 23) E.1 E.2.1 dX12_isStep_19 (by decide) ?_
    exact em_z (w1 := (fun (u : Unit) => (MW cI cJ M mr mi mf mg))) E hr hlk () hw7 (Or.inl ⟨rfl, (by show (mi 24).toInt = 2; omega), (by show (mi 25).toInt = 28; omega)⟩) (by decide +kernel) (Nat.le_of_ble_eq_true rfl) (Nat.le_of_ble_eq_true rfl) dX12_isStep_23
  · skip
    have ha_11 : ¬ (mi 24).toInt = 2 := ha_11
    refine lv_if_ne (pc := 6) (tgt := 18) E.1 E.2.1 dX12_isStep_6 (by decide) (fun c_14 => absurd (meqE (a := 0) (b := 0) (by decide +kernel) (by decide +kernel) (by omega)) c_14) (fun _ => ?_)
    refine lv_aload_n (pc := 9) E.1 E.2.1 dX12_isStep_9 rfl (lv_at hl3 0 rfl) ?_
    refine lv_bipush (pc := 10) (v := 29) E.1 E.2.1 dX12_isStep_10 (by decide +kernel) ?_
    refine cm_i (pc := 12) hw7 (rn_M (As := [.int 29]) (rest := []) E hw7 (s_isWordT l D cI cJ _ M mr mi mf mg 29) (gdV q_1694 q_1696 q_59 q_162 q_1697) hdV_X12_isWord ⟨rfl, rfl⟩ ⟨(Nat.le_of_ble_eq_true rfl), (Nat.le_of_ble_eq_true rfl)⟩ ⟨(Nat.le_of_ble_eq_true rfl), (Nat.le_of_ble_eq_true rfl)⟩ 12 rfl rfl rfl rfl hl3.1 rfl (Nat.le_of_ble_eq_true rfl) dX12_isStep_12) (fun r_16 u_15 H1 locs hp hw17 => ?_)
    generalize H1 = H at hw17 ⊢
    have hw18 : WD D A s.heap (MW cI cJ M mr mi mf mg) H locs := hw17
    have hp_19 := hp
    rcases hp_19 with ⟨rfl, ha_20, ha_21⟩ | ⟨rfl, ha_22⟩ | ⟨rfl, ha_23⟩
    · skip
      have ha_20 : (mi 24).toInt = 2 := ha_20
      have ha_21 : (mi 25).toInt = (29 : Int32).toInt := ha_21
      rw [show (29 : Int32).toInt = 29 from by decide +kernel] at ha_21
      exfalso; omega
    · skip
      have ha_22 : ¬ (mi 24).toInt = 2 := ha_22
      refine lv_if_eq (pc := 15) (tgt := 22) E.1 E.2.1 dX12_isStep_15 (by decide) (fun _ => ?_) (fun c_24 => absurd (meqE (a := 0) (b := 0) (by decide +kernel) (by decide +kernel) (by omega)) c_24)
      refine lv_iconst (pc := 22) (v := 0) E.1 E.2.1 dX12_isStep_22 (by decide +kernel) ?_
      exact em_z (w1 := (fun (u : Unit) => (MW cI cJ M mr mi mf mg))) E hr hlk () hw18 (Or.inr (Or.inr (Or.inl ⟨rfl, (by show ¬ (mi 24).toInt = 2; omega)⟩))) (by decide +kernel) (Nat.le_of_ble_eq_true rfl) (Nat.le_of_ble_eq_true rfl) dX12_isStep_23
    · skip
      have ha_23 : ¬ (mi 25).toInt = (29 : Int32).toInt := ha_23
      rw [show (29 : Int32).toInt = 29 from by decide +kernel] at ha_23
      refine lv_if_eq (pc := 15) (tgt := 22) E.1 E.2.1 dX12_isStep_15 (by decide) (fun _ => ?_) (fun c_25 => absurd (meqE (a := 0) (b := 0) (by decide +kernel) (by decide +kernel) (by omega)) c_25)
      refine lv_iconst (pc := 22) (v := 0) E.1 E.2.1 dX12_isStep_22 (by decide +kernel) ?_
      exact em_z (w1 := (fun (u : Unit) => (MW cI cJ M mr mi mf mg))) E hr hlk () hw18 (Or.inr (Or.inr (Or.inl ⟨rfl, (by show ¬ (mi 24).toInt = 2; omega)⟩))) (by decide +kernel) (Nat.le_of_ble_eq_true rfl) (Nat.le_of_ble_eq_true rfl) dX12_isStep_23
  · skip
    have ha_12 : ¬ (mi 25).toInt = (28 : Int32).toInt := ha_12
    rw [show (28 : Int32).toInt = 28 from by decide +kernel] at ha_12
    refine lv_if_ne (pc := 6) (tgt := 18) E.1 E.2.1 dX12_isStep_6 (by decide) (fun c_26 => absurd (meqE (a := 0) (b := 0) (by decide +kernel) (by decide +kernel) (by omega)) c_26) (fun _ => ?_)
    refine lv_aload_n (pc := 9) E.1 E.2.1 dX12_isStep_9 rfl (lv_at hl3 0 rfl) ?_
    refine lv_bipush (pc := 10) (v := 29) E.1 E.2.1 dX12_isStep_10 (by decide +kernel) ?_
    refine cm_i (pc := 12) hw7 (rn_M (As := [.int 29]) (rest := []) E hw7 (s_isWordT l D cI cJ _ M mr mi mf mg 29) (gdV q_1694 q_1696 q_59 q_162 q_1697) hdV_X12_isWord ⟨rfl, rfl⟩ ⟨(Nat.le_of_ble_eq_true rfl), (Nat.le_of_ble_eq_true rfl)⟩ ⟨(Nat.le_of_ble_eq_true rfl), (Nat.le_of_ble_eq_true rfl)⟩ 12 rfl rfl rfl rfl hl3.1 rfl (Nat.le_of_ble_eq_true rfl) dX12_isStep_12) (fun r_28 u_27 H1 locs hp hw29 => ?_)
    generalize H1 = H at hw29 ⊢
    have hw30 : WD D A s.heap (MW cI cJ M mr mi mf mg) H locs := hw29
    have hp_31 := hp
    rcases hp_31 with ⟨rfl, ha_32, ha_33⟩ | ⟨rfl, ha_34⟩ | ⟨rfl, ha_35⟩
    · skip
      have ha_32 : (mi 24).toInt = 2 := ha_32
      have ha_33 : (mi 25).toInt = (29 : Int32).toInt := ha_33
      rw [show (29 : Int32).toInt = 29 from by decide +kernel] at ha_33
      refine lv_if_eq (pc := 15) (tgt := 22) E.1 E.2.1 dX12_isStep_15 (by decide) (fun c_36 => absurd c_36 (mneE (a := 1) (b := 0) (by decide +kernel) (by decide +kernel) (by omega))) (fun _ => ?_)
      refine lv_iconst (pc := 18) (v := 1) E.1 E.2.1 dX12_isStep_18 (by decide +kernel) ?_
      refine lv_goto (pc := 19) (tgt := 23) E.1 E.2.1 dX12_isStep_19 (by decide) ?_
      exact em_z (w1 := (fun (u : Unit) => (MW cI cJ M mr mi mf mg))) E hr hlk () hw30 (Or.inr (Or.inl ⟨rfl, (by show (mi 24).toInt = 2; omega), (by show (mi 25).toInt = 29; omega)⟩)) (by decide +kernel) (Nat.le_of_ble_eq_true rfl) (Nat.le_of_ble_eq_true rfl) dX12_isStep_23
    · skip
      have ha_34 : ¬ (mi 24).toInt = 2 := ha_34
      refine lv_if_eq (pc := 15) (tgt := 22) E.1 E.2.1 dX12_isStep_15 (by decide) (fun _ => ?_) (fun c_37 => absurd (meqE (a := 0) (b := 0) (by decide +kernel) (by decide +kernel) (by omega)) c_37)
      refine lv_iconst (pc := 22) (v := 0) E.1 E.2.1 dX12_isStep_22 (by decide +kernel) ?_
      exact em_z (w1 := (fun (u : Unit) => (MW cI cJ M mr mi mf mg))) E hr hlk () hw30 (Or.inr (Or.inr (Or.inl ⟨rfl, (by show ¬ (mi 24).toInt = 2; omega)⟩))) (by decide +kernel) (Nat.le_of_ble_eq_true rfl) (Nat.le_of_ble_eq_true rfl) dX12_isStep_23
    · skip
      have ha_35 : ¬ (mi 25).toInt = (29 : Int32).toInt := ha_35
      rw [show (29 : Int32).toInt = 29 from by decide +kernel] at ha_35
      refine lv_if_eq (pc := 15) (tgt := 22) E.1 E.2.1 dX12_isStep_15 (by decide) (fun _ => ?_) (fun c_38 => absurd (meqE (a := 0) (b := 0) (by decide +kernel) (by decide +kernel) (by omega)) c_38)
      refine lv_iconst (pc := 22) (v := 0) E.1 E.2.1 dX12_isStep_22 (by decide +kernel) ?_
      exact em_z (w1 := (fun (u : Unit) => (MW cI cJ M mr mi mf mg))) E hr hlk () hw30 (Or.inr (Or.inr (Or.inr (⟨rfl, (by show ¬ (mi 25).toInt = 28; omega), (by show ¬ (mi 25).toInt = 29; omega)⟩)))) (by decide +kernel) (Nat.le_of_ble_eq_true rfl) (Nat.le_of_ble_eq_true rfl) dX12_isStep_23

set_option maxHeartbeats 4000000 in
set_option maxRecDepth 100000 in
theorem s_readStepT (l : Launch) (D : va_G) (cI cJ : ClassId) (sz M : Nat) (mr : Nat → Nat) (mi : Nat → Int32) (mf : Nat → Nat → Int32) (mg : Nat → Nat → Int64)  (h0 : 0 ≤ (mi 23).toInt) (h1 : (mi 23).toInt ≤ (mi 22).toInt) (h2 : (mi 22).toInt ≤ (mi 21).toInt) (h3 : (mi 21).toInt ≤ 400) (h4 : 0 ≤ (mi 24).toInt) (h5 : (mi 24).toInt ≤ 4) (h6 : (mi 24).toInt ≤ 4 * (mi 22).toInt - 4 * (mi 23).toInt) (h7 : ((mf 26) 153).toInt = 32) (h8 : 0 ≤ (mi 6).toInt ∧ (mi 6).toInt ≤ 10) (h9 : 0 ≤ (mi 48).toInt) (h10 : 3 * (mi 48).toInt ≤ (mi 23).toInt) (h11 : (mi 24).toInt = 2) (h12 : 28 ≤ (mi 25).toInt) (h13 : (mi 25).toInt ≤ 29) (a_tape : b255 (mf 20)) (lf_words : (∀ j : Nat, j < 154 → (mf 26) j = w0 j)) (lf_again : AGN ((mi 24).toInt) ((mi 25).toInt) ((mi 23).toInt) ((mi 22).toInt)) : Met l yX12_readStep (Cond.code yX12_readStep cX12_readStep 3 (some .int) :: GW) ({ frames := 5, cells := 0, slots := 0, locals := 128 } : Room) (va_Pc [.ref M] (PW D cI cJ sz (MW cI cJ M mr mi mf mg) xT)) (va_Qi (fun (r : Int32) (u : Int32 × Int32 × Int32 × Int32 × Int32 × Int32 × (Nat → Int32) × (Nat → Int32) × Int32) => (0 ≤ u.2.1.toInt) ∧ (u.2.1.toInt ≤ u.1.toInt) ∧ (u.1.toInt ≤ (mi 21).toInt) ∧ (0 ≤ u.2.2.1.toInt) ∧ (u.2.2.1.toInt ≤ 4) ∧ (u.2.2.1.toInt ≤ 4 * u.1.toInt - 4 * u.2.1.toInt) ∧ (AGN u.2.2.1.toInt u.2.2.2.1.toInt u.2.1.toInt u.1.toInt) ∧ (r = 0 → (∀ t : Nat, RSP (mf 46) (mf 47) (mi 6).toInt (((mi 48).toInt).toNat) t → RSP u.2.2.2.2.2.2.1 u.2.2.2.2.2.2.2.1 (mi 6).toInt ((u.2.2.2.2.2.2.2.2.toInt).toNat) t)) ∧ ((∀ p : Int, TKR (mf 20) (mi 21).toInt p (mi 23).toInt (mi 22).toInt (mi 24).toInt (mi 25).toInt → IR (mf 20) (mi 21).toInt (itR (mf 20) (mi 21).toInt ((mi 6).toInt - 1) (((mi 35).toInt).toNat) p) ((mi 25).toInt - 28) (stpL (mf 46) (mf 47) (((mi 48).toInt).toNat)) (stpL u.2.2.2.2.2.2.1 u.2.2.2.2.2.2.2.1 ((u.2.2.2.2.2.2.2.2.toInt).toNat)) (r : Int32).toInt u.2.2.2.2.1.toInt u.2.2.2.2.2.1.toInt u.2.1.toInt u.1.toInt u.2.2.1.toInt u.2.2.2.1.toInt)) ∧ ((r = (-1)) ∨ (r = 0 ∧ (mi 23).toInt + 3 ≤ u.2.1.toInt ∧ u.2.2.2.2.2.2.2.2.toInt = (mi 48).toInt + 1))) (fun u => QW D cI cJ (va_A (MW cI cJ M mr mi mf mg) sz) ((fun (u : Int32 × Int32 × Int32 × Int32 × Int32 × Int32 × (Nat → Int32) × (Nat → Int32) × Int32) => (MW cI cJ M mr (upd (upd (upd (upd (upd (upd (upd mi 22 u.1) 23 u.2.1) 24 u.2.2.1) 25 u.2.2.2.1) 38 u.2.2.2.2.1) 39 u.2.2.2.2.2.1) 48 u.2.2.2.2.2.2.2.2) (va_up (va_up mf 46 u.2.2.2.2.2.2.1) 47 u.2.2.2.2.2.2.2.1) mg)) u)) (va_A (MW cI cJ M mr mi mf mg) sz)) 0 0 (va_A (MW cI cJ M mr mi mf mg) sz) := by
  refine mk_met (y := yX12_readStep) (bytes := cX12_readStep) (maxL := 3) (avs := [.ref M]) (WS := (MW cI cJ M mr mi mf mg)) (Qf := fun A => va_Qi (fun (r : Int32) (u : Int32 × Int32 × Int32 × Int32 × Int32 × Int32 × (Nat → Int32) × (Nat → Int32) × Int32) => (0 ≤ u.2.1.toInt) ∧ (u.2.1.toInt ≤ u.1.toInt) ∧ (u.1.toInt ≤ (mi 21).toInt) ∧ (0 ≤ u.2.2.1.toInt) ∧ (u.2.2.1.toInt ≤ 4) ∧ (u.2.2.1.toInt ≤ 4 * u.1.toInt - 4 * u.2.1.toInt) ∧ (AGN u.2.2.1.toInt u.2.2.2.1.toInt u.2.1.toInt u.1.toInt) ∧ (r = 0 → (∀ t : Nat, RSP (mf 46) (mf 47) (mi 6).toInt (((mi 48).toInt).toNat) t → RSP u.2.2.2.2.2.2.1 u.2.2.2.2.2.2.2.1 (mi 6).toInt ((u.2.2.2.2.2.2.2.2.toInt).toNat) t)) ∧ ((∀ p : Int, TKR (mf 20) (mi 21).toInt p (mi 23).toInt (mi 22).toInt (mi 24).toInt (mi 25).toInt → IR (mf 20) (mi 21).toInt (itR (mf 20) (mi 21).toInt ((mi 6).toInt - 1) (((mi 35).toInt).toNat) p) ((mi 25).toInt - 28) (stpL (mf 46) (mf 47) (((mi 48).toInt).toNat)) (stpL u.2.2.2.2.2.2.1 u.2.2.2.2.2.2.2.1 ((u.2.2.2.2.2.2.2.2.toInt).toNat)) (r : Int32).toInt u.2.2.2.2.1.toInt u.2.2.2.2.2.1.toInt u.2.1.toInt u.1.toInt u.2.2.1.toInt u.2.2.2.1.toInt)) ∧ ((r = (-1)) ∨ (r = 0 ∧ (mi 23).toInt + 3 ≤ u.2.1.toInt ∧ u.2.2.2.2.2.2.2.2.toInt = (mi 48).toInt + 1))) (fun u => QW D cI cJ A ((fun (u : Int32 × Int32 × Int32 × Int32 × Int32 × Int32 × (Nat → Int32) × (Nat → Int32) × Int32) => (MW cI cJ M mr (upd (upd (upd (upd (upd (upd (upd mi 22 u.1) 23 u.2.1) 24 u.2.2.1) 25 u.2.2.2.1) 38 u.2.2.2.2.1) 39 u.2.2.2.2.2.1) 48 u.2.2.2.2.2.2.2.2) (va_up (va_up mf 46 u.2.2.2.2.2.2.1) 47 u.2.2.2.2.2.2.2.1) mg)) u)) A) (by decide) (Nat.le_of_ble_eq_true rfl) ?_
  intro p e s m below meth c A ls E hr hlk hnm hX hw1 hl2
  have hl3 : lv_has ls 3 [(0, .ref M)] := hl2
  refine lv_aload_n (pc := 0) E.1 E.2.1 dX12_readStep_0 rfl (lv_at hl3 0 rfl) ?_
  refine lv_bipush (pc := 1) (v := 28) E.1 E.2.1 dX12_readStep_1 (by decide +kernel) ?_
  refine cm_i (pc := 3) hw1 (rn_M (As := [.int 28]) (rest := []) E hw1 (s_isWordT l D cI cJ _ M mr mi mf mg 28) (gdV q_1694 q_1696 q_59 q_162 q_1697) hdV_X12_isWord ⟨rfl, rfl⟩ ⟨(Nat.le_of_ble_eq_true rfl), (Nat.le_of_ble_eq_true rfl)⟩ ⟨(Nat.le_of_ble_eq_true rfl), (Nat.le_of_ble_eq_true rfl)⟩ 12 rfl rfl rfl rfl hl3.1 rfl (Nat.le_of_ble_eq_true rfl) dX12_readStep_3) (fun r_5 u_4 H1 locs hp hw6 => ?_)
  generalize H1 = H at hw6 ⊢
  have hw7 : WD D A s.heap (MW cI cJ M mr mi mf mg) H locs := hw6
  have hp_8 := hp
  rcases hp_8 with ⟨rfl, ha_9, ha_10⟩ | ⟨rfl, ha_11⟩ | ⟨rfl, ha_12⟩
  · skip
    have ha_9 : (mi 24).toInt = 2 := ha_9
    have ha_10 : (mi 25).toInt = (28 : Int32).toInt := ha_10
    rw [show (28 : Int32).toInt = 28 from by decide +kernel] at ha_10
    refine lv_istore_n (pc := 6) (lv' := [(1, .int 1), (0, .ref M)]) E.1 E.2.1 dX12_readStep_6 rfl hl3 (by decide) rfl (fun ls hl13 => ?_)
    refine lv_aload_n (pc := 7) E.1 E.2.1 dX12_readStep_7 rfl (lv_at hl13 1 rfl) ?_
    refine cm_v (pc := 8) hw7 (rn_M (As := []) (rest := []) E hw7 (s_readsT l D cI cJ _ M mr mi mf mg (by show 0 ≤ (mi 22).toInt; omega) h2 h3 h7 a_tape (show (∀ j : Nat, j < 154 → (mf 26) j = w0 j) from lf_words)) (gdV q_1666 q_1668 q_52 q_162 q_1669) hdV_X12_reads ⟨rfl, rfl⟩ ⟨(Nat.le_of_ble_eq_true rfl), (Nat.le_of_ble_eq_true rfl)⟩ ⟨(Nat.le_of_ble_eq_true rfl), (Nat.le_of_ble_eq_true rfl)⟩ 12 rfl rfl rfl rfl hl13.1 rfl (Nat.le_of_ble_eq_true rfl) dX12_readStep_8) (fun u_14 H1 locs hp hw16 => ?_)
    obtain ⟨nspot_17, nfrom_18, ntoken_19, nvalue_20⟩ := u_14
    generalize H1 = H at hw16 ⊢
    have hw21 : WD D A s.heap (MW cI cJ M mr (upd (upd (upd (upd mi 22 nspot_17) 23 nfrom_18) 24 ntoken_19) 25 nvalue_20) mf mg) H locs := hw16
    obtain ⟨hp_22, hp_23, hp_24, hp_25, hp_26, hp_27, hp_28, hp_29, hp_30⟩ := hp
    have hp_22 : 0 ≤ nfrom_18.toInt := hp_22
    have hp_23 : nfrom_18.toInt ≤ nspot_17.toInt := hp_23
    have hp_24 : nspot_17.toInt ≤ (mi 21).toInt := hp_24
    have hp_25 : 0 ≤ ntoken_19.toInt := hp_25
    have hp_26 : ntoken_19.toInt ≤ 4 := hp_26
    have hp_27 : ntoken_19.toInt ≤ 4 * nspot_17.toInt - 4 * nfrom_18.toInt := hp_27
    have hp_28 : (mi 22).toInt ≤ nfrom_18.toInt := hp_28
    have hp_29 : AGN ntoken_19.toInt nvalue_20.toInt nfrom_18.toInt nspot_17.toInt := hp_29
    have hp_30 : TKR (mf 20) (mi 21).toInt (mi 22).toInt nfrom_18.toInt nspot_17.toInt ntoken_19.toInt nvalue_20.toInt := hp_30
    refine lv_iload_n (pc := 11) E.1 E.2.1 dX12_readStep_11 rfl (lv_at hl13 0 rfl) ?_
    refine lv_if_eq (pc := 12) (tgt := 29) E.1 E.2.1 dX12_readStep_12 (by decide) (fun c_31 => absurd c_31 (mneE (a := 1) (b := 0) (by decide +kernel) (by decide +kernel) (by omega))) (fun _ => ?_)
    refine lv_aload_n (pc := 15) E.1 E.2.1 dX12_readStep_15 rfl (lv_at hl13 1 rfl) ?_
    refine lv_iconst (pc := 16) (v := 0) E.1 E.2.1 dX12_readStep_16 (by decide +kernel) ?_
    refine lv_aload_n (pc := 17) E.1 E.2.1 dX12_readStep_17 rfl (lv_at hl13 1 rfl) ?_
    refine x_get (pc := 18) (T := TX12) (N := 70) (ci := 12) (v := .int (mi 6)) E hw21 inX12 0 6 q_1405 rfl rfl (by decide) rfl rfl dX12_readStep_18 ?_
    refine lv_iconst (pc := 21) (v := 1) E.1 E.2.1 dX12_readStep_21 (by decide +kernel) ?_
    refine lv_isub (pc := 22) E.1 E.2.1 dX12_readStep_22 ?_
    refine lv_topi (fun v_32 ev_32 => ?_)
    have hv_32 : v_32.toInt = (mi 6).toInt - 1 := by rw [ev_32]; exact subE rfl (by decide +kernel) (by omega)
    refine cm_i (pc := 23) hw21 (rn_M (As := [.int 0, .int v_32]) (rest := []) E hw21 (s_readNumberT l D cI cJ _ M mr (upd (upd (upd (upd mi 22 nspot_17) 23 nfrom_18) 24 ntoken_19) 25 nvalue_20) mf mg 0 v_32 hp_22 hp_23 hp_24 h3 hp_25 hp_26 hp_27 h7 a_tape (show (∀ j : Nat, j < 154 → (mf 26) j = w0 j) from lf_words) (show AGN ntoken_19.toInt nvalue_20.toInt nfrom_18.toInt nspot_17.toInt from hp_29)) (gdV q_1706 q_1708 q_62 q_162 q_1709) hdV_X12_readNumber ⟨rfl, rfl⟩ ⟨(Nat.le_of_ble_eq_true rfl), (Nat.le_of_ble_eq_true rfl)⟩ ⟨(Nat.le_of_ble_eq_true rfl), (Nat.le_of_ble_eq_true rfl)⟩ 12 rfl rfl rfl rfl hl13.1 rfl (Nat.le_of_ble_eq_true rfl) dX12_readStep_23) (fun r_34 u_33 H1 locs hp hw35 => ?_)
    obtain ⟨nspot_36, nfrom_37, ntoken_38, nvalue_39, nreadFault_40, nreadPlace_41⟩ := u_33
    generalize H1 = H at hw35 ⊢
    have hw42 : WD D A s.heap (MW cI cJ M mr (upd (upd (upd (upd (upd (upd mi 22 nspot_36) 23 nfrom_37) 24 ntoken_38) 25 nvalue_39) 38 nreadFault_40) 39 nreadPlace_41) mf mg) H locs := hw35
    obtain ⟨hp_43, hp_44, hp_45, hp_46, hp_47, hp_48, hp_49, hp_50, hp_51⟩ := hp
    have hp_43 : 0 ≤ nfrom_37.toInt := hp_43
    have hp_44 : nfrom_37.toInt ≤ nspot_36.toInt := hp_44
    have hp_45 : nspot_36.toInt ≤ (mi 21).toInt := hp_45
    have hp_46 : 0 ≤ ntoken_38.toInt := hp_46
    have hp_47 : ntoken_38.toInt ≤ 4 := hp_47
    have hp_48 : ntoken_38.toInt ≤ 4 * nspot_36.toInt - 4 * nfrom_37.toInt := hp_48
    have hp_49 : AGN ntoken_38.toInt nvalue_39.toInt nfrom_37.toInt nspot_36.toInt := hp_49
    have hp_50 : (∀ p : Int, TKR (mf 20) (mi 21).toInt p nfrom_18.toInt nspot_17.toInt ntoken_19.toInt nvalue_20.toInt → RN (mf 20) (mi 21).toInt (numR (mf 20) (mi 21).toInt ((0 : Int32) : Int32).toInt (v_32 : Int32).toInt p) (r_34 : Int32).toInt nreadFault_40.toInt nreadPlace_41.toInt nfrom_37.toInt nspot_36.toInt ntoken_38.toInt nvalue_39.toInt) := hp_50
    rcases hp_51 with rfl | ⟨ha_52, ha_53, ha_54⟩
    · skip
      refine lv_goto (pc := 26) (tgt := 36) E.1 E.2.1 dX12_readStep_26 (by decide) ?_
      refine lv_istore_n (pc := 36) (lv' := [(2, .int (-1)), (1, .int 1), (0, .ref M)]) E.1 E.2.1 dX12_readStep_36 rfl hl13 (by decide) rfl (fun ls hl55 => ?_)
      refine lv_iload_n (pc := 37) E.1 E.2.1 dX12_readStep_37 rfl (lv_at hl55 0 rfl) ?_
      refine lv_iconst (pc := 38) (v := (-1)) E.1 E.2.1 dX12_readStep_38 (by decide +kernel) ?_
      refine lv_icmp_eq (pc := 39) (tgt := 52) E.1 E.2.1 dX12_readStep_39 (by decide) (fun _ => ?_) (fun c_56 => absurd (meqE (a := (-1)) (b := (-1)) (by decide +kernel) (by decide +kernel) (by omega)) c_56)
      refine lv_iconst (pc := 52) (v := (-1)) E.1 E.2.1 dX12_readStep_52 (by decide +kernel) ?_
      exact em_i (w1 := (fun (u : Int32 × Int32 × Int32 × Int32 × Int32 × Int32 × (Nat → Int32) × (Nat → Int32) × Int32) => (MW cI cJ M mr (upd (upd (upd (upd (upd (upd (upd mi 22 u.1) 23 u.2.1) 24 u.2.2.1) 25 u.2.2.2.1) 38 u.2.2.2.2.1) 39 u.2.2.2.2.2.1) 48 u.2.2.2.2.2.2.2.2) (va_up (va_up mf 46 u.2.2.2.2.2.2.1) 47 u.2.2.2.2.2.2.2.1) mg))) E hr hlk (nspot_36, nfrom_37, ntoken_38, nvalue_39, nreadFault_40, nreadPlace_41, (mf 46), (mf 47), (mi 48)) hw42 ⟨hp_43, hp_44, hp_45, hp_46, hp_47, hp_48, hp_49, (fun h => absurd h (by decide +kernel)), (show (∀ p : Int, TKR (mf 20) (mi 21).toInt p (mi 23).toInt (mi 22).toInt (mi 24).toInt (mi 25).toInt → IR (mf 20) (mi 21).toInt (itR (mf 20) (mi 21).toInt ((mi 6).toInt - 1) (((mi 35).toInt).toNat) p) ((mi 25).toInt - 28) (stpL (mf 46) (mf 47) (((mi 48).toInt).toNat)) (stpL (mf 46) (mf 47) (((mi 48).toInt).toNat)) ((-1) : Int32).toInt nreadFault_40.toInt nreadPlace_41.toInt nfrom_37.toInt nspot_36.toInt ntoken_38.toInt nvalue_39.toInt) from (fun p hp => by rw [it_go hp (by omega) (by omega)]; have q := hp_50 _ hp_30; rw [show v_32.toInt = (mi 6).toInt - 1 from by omega] at q; exact IR_num q (by decide +kernel) (by decide +kernel) (by decide +kernel) rfl rfl)), (Or.inl rfl)⟩ (Nat.le_of_ble_eq_true rfl) (Nat.le_of_ble_eq_true rfl) dX12_readStep_53
    · skip
      have ha_52 : (0 : Int32).toInt ≤ r_34.toInt := ha_52
      rw [show (0 : Int32).toInt = 0 from by decide +kernel] at ha_52
      have ha_53 : r_34.toInt ≤ v_32.toInt := ha_53
      have ha_54 : nfrom_18.toInt + 1 ≤ nfrom_37.toInt := ha_54
      refine lv_goto (pc := 26) (tgt := 36) E.1 E.2.1 dX12_readStep_26 (by decide) ?_
      refine lv_istore_n (pc := 36) (lv' := [(2, .int r_34), (1, .int 1), (0, .ref M)]) E.1 E.2.1 dX12_readStep_36 rfl hl13 (by decide) rfl (fun ls hl57 => ?_)
      refine lv_iload_n (pc := 37) E.1 E.2.1 dX12_readStep_37 rfl (lv_at hl57 0 rfl) ?_
      refine lv_iconst (pc := 38) (v := (-1)) E.1 E.2.1 dX12_readStep_38 (by decide +kernel) ?_
      refine lv_icmp_eq (pc := 39) (tgt := 52) E.1 E.2.1 dX12_readStep_39 (by decide) (fun c_58 => absurd c_58 (mneE (a := r_34.toInt) (b := (-1)) rfl (by decide +kernel) (by omega))) (fun _ => ?_)
      refine lv_aload_n (pc := 42) E.1 E.2.1 dX12_readStep_42 rfl (lv_at hl57 2 rfl) ?_
      refine lv_bipush (pc := 43) (v := 59) E.1 E.2.1 dX12_readStep_43 (by decide +kernel) ?_
      refine cm_i (pc := 45) hw42 (rn_M (As := [.int 59]) (rest := []) E hw42 (s_readMarkT l D cI cJ _ M mr (upd (upd (upd (upd (upd (upd mi 22 nspot_36) 23 nfrom_37) 24 ntoken_38) 25 nvalue_39) 38 nreadFault_40) 39 nreadPlace_41) mf mg 59 hp_43 hp_44 hp_45 h3 hp_46 hp_47 hp_48 h7 a_tape (show (∀ j : Nat, j < 154 → (mf 26) j = w0 j) from lf_words) (show AGN ntoken_38.toInt nvalue_39.toInt nfrom_37.toInt nspot_36.toInt from hp_49)) (gdV q_1714 q_1716 q_64 q_162 q_1717) hdV_X12_readMark ⟨rfl, rfl⟩ ⟨(Nat.le_of_ble_eq_true rfl), (Nat.le_of_ble_eq_true rfl)⟩ ⟨(Nat.le_of_ble_eq_true rfl), (Nat.le_of_ble_eq_true rfl)⟩ 12 rfl rfl rfl rfl hl57.1 rfl (Nat.le_of_ble_eq_true rfl) dX12_readStep_45) (fun r_60 u_59 H1 locs hp hw61 => ?_)
      obtain ⟨nspot_62, nfrom_63, ntoken_64, nvalue_65, nreadFault_66, nreadPlace_67⟩ := u_59
      generalize H1 = H at hw61 ⊢
      have hw68 : WD D A s.heap (MW cI cJ M mr (upd (upd (upd (upd (upd (upd mi 22 nspot_62) 23 nfrom_63) 24 ntoken_64) 25 nvalue_65) 38 nreadFault_66) 39 nreadPlace_67) mf mg) H locs := hw61
      obtain ⟨hp_69, hp_70, hp_71, hp_72, hp_73, hp_74, hp_75, hp_76, hp_77⟩ := hp
      have hp_69 : 0 ≤ nfrom_63.toInt := hp_69
      have hp_70 : nfrom_63.toInt ≤ nspot_62.toInt := hp_70
      have hp_71 : nspot_62.toInt ≤ (mi 21).toInt := hp_71
      have hp_72 : 0 ≤ ntoken_64.toInt := hp_72
      have hp_73 : ntoken_64.toInt ≤ 4 := hp_73
      have hp_74 : ntoken_64.toInt ≤ 4 * nspot_62.toInt - 4 * nfrom_63.toInt := hp_74
      have hp_75 : AGN ntoken_64.toInt nvalue_65.toInt nfrom_63.toInt nspot_62.toInt := hp_75
      have hp_76 : (∀ p : Int, TKR (mf 20) (mi 21).toInt p nfrom_37.toInt nspot_36.toInt ntoken_38.toInt nvalue_39.toInt → RX (mf 20) (mi 21).toInt (markR (mf 20) (mi 21).toInt ((59 : Int32) : Int32).toInt p) (r_60 : Int32).toInt nreadFault_66.toInt nreadPlace_67.toInt nfrom_63.toInt nspot_62.toInt ntoken_64.toInt nvalue_65.toInt) := hp_76
      rcases hp_77 with rfl | ⟨rfl, ha_78⟩
      · skip
        refine lv_iconst (pc := 48) (v := (-1)) E.1 E.2.1 dX12_readStep_48 (by decide +kernel) ?_
        refine lv_icmp_ne (pc := 49) (tgt := 54) E.1 E.2.1 dX12_readStep_49 (by decide) (fun c_79 => absurd (meqE (a := (-1)) (b := (-1)) (by decide +kernel) (by decide +kernel) (by omega)) c_79) (fun _ => ?_)
        refine lv_iconst (pc := 52) (v := (-1)) E.1 E.2.1 dX12_readStep_52 (by decide +kernel) ?_
        exact em_i (w1 := (fun (u : Int32 × Int32 × Int32 × Int32 × Int32 × Int32 × (Nat → Int32) × (Nat → Int32) × Int32) => (MW cI cJ M mr (upd (upd (upd (upd (upd (upd (upd mi 22 u.1) 23 u.2.1) 24 u.2.2.1) 25 u.2.2.2.1) 38 u.2.2.2.2.1) 39 u.2.2.2.2.2.1) 48 u.2.2.2.2.2.2.2.2) (va_up (va_up mf 46 u.2.2.2.2.2.2.1) 47 u.2.2.2.2.2.2.2.1) mg))) E hr hlk (nspot_62, nfrom_63, ntoken_64, nvalue_65, nreadFault_66, nreadPlace_67, (mf 46), (mf 47), (mi 48)) hw68 ⟨hp_69, hp_70, hp_71, hp_72, hp_73, hp_74, hp_75, (fun h => absurd h (by decide +kernel)), (show (∀ p : Int, TKR (mf 20) (mi 21).toInt p (mi 23).toInt (mi 22).toInt (mi 24).toInt (mi 25).toInt → IR (mf 20) (mi 21).toInt (itR (mf 20) (mi 21).toInt ((mi 6).toInt - 1) (((mi 35).toInt).toNat) p) ((mi 25).toInt - 28) (stpL (mf 46) (mf 47) (((mi 48).toInt).toNat)) (stpL (mf 46) (mf 47) (((mi 48).toInt).toNat)) ((-1) : Int32).toInt nreadFault_66.toInt nreadPlace_67.toInt nfrom_63.toInt nspot_62.toInt ntoken_64.toInt nvalue_65.toInt) from (fun p hp => by rw [it_go hp (by omega) (by omega)]; have q := hp_50 _ hp_30; rw [show v_32.toInt = (mi 6).toInt - 1 from by omega] at q; exact IR_mark q (by omega) hp_76 (by decide +kernel) (by decide +kernel) rfl rfl)), (Or.inl rfl)⟩ (Nat.le_of_ble_eq_true rfl) (Nat.le_of_ble_eq_true rfl) dX12_readStep_53
      · skip
        have ha_78 : nfrom_37.toInt + 1 ≤ nfrom_63.toInt := ha_78
        refine lv_iconst (pc := 48) (v := (-1)) E.1 E.2.1 dX12_readStep_48 (by decide +kernel) ?_
        refine lv_icmp_ne (pc := 49) (tgt := 54) E.1 E.2.1 dX12_readStep_49 (by decide) (fun _ => ?_) (fun c_80 => absurd c_80 (mneE (a := 0) (b := (-1)) (by decide +kernel) (by decide +kernel) (by omega)))
        refine lv_aload_n (pc := 54) E.1 E.2.1 dX12_readStep_54 rfl (lv_at hl57 2 rfl) ?_
        refine lv_iload_n (pc := 55) E.1 E.2.1 dX12_readStep_55 rfl (lv_at hl57 1 rfl) ?_
        refine lv_if_eq (pc := 56) (tgt := 63) E.1 E.2.1 dX12_readStep_56 (by decide) (fun c_81 => absurd c_81 (mneE (a := 1) (b := 0) (by decide +kernel) (by decide +kernel) (by omega))) (fun _ => ?_)
        refine lv_iconst (pc := 59) (v := 0) E.1 E.2.1 dX12_readStep_59 (by decide +kernel) ?_
        refine lv_goto (pc := 60) (tgt := 64) E.1 E.2.1 dX12_readStep_60 (by decide) ?_
        refine lv_iload_n (pc := 64) E.1 E.2.1 dX12_readStep_64 rfl (lv_at hl57 0 rfl) ?_
        refine cm_v (pc := 65) hw68 (rn_M (As := [.int 0, .int r_34]) (rest := []) E hw68 (s_emitsStep l D cI cJ _ M mr (upd (upd (upd (upd (upd (upd mi 22 nspot_62) 23 nfrom_63) 24 ntoken_64) 25 nvalue_65) 38 nreadFault_66) 39 nreadPlace_67) mf mg 0 r_34 (by show 0 ≤ (mi 48).toInt ∧ (mi 48).toInt ≤ 139; omega)) (gdV q_1746 q_1748 q_72 q_162 q_1749) hdV_X12_emitsStep ⟨rfl, rfl⟩ ⟨(Nat.le_of_ble_eq_true rfl), (Nat.le_of_ble_eq_true rfl)⟩ ⟨(Nat.le_of_ble_eq_true rfl), (Nat.le_of_ble_eq_true rfl)⟩ 12 rfl rfl rfl rfl hl57.1 rfl (Nat.le_of_ble_eq_true rfl) dX12_readStep_65) (fun u_82 H1 locs hp hw84 => ?_)
        obtain ⟨gstepOp_85, gstepHow_86, nsteps_87⟩ := u_82
        generalize H1 = H at hw84 ⊢
        have hw88 : WD D A s.heap (MW cI cJ M mr (upd (upd (upd (upd (upd (upd (upd mi 22 nspot_62) 23 nfrom_63) 24 ntoken_64) 25 nvalue_65) 38 nreadFault_66) 39 nreadPlace_67) 48 nsteps_87) (va_up (va_up mf 46 gstepOp_85) 47 gstepHow_86) mg) H locs := hw84
        obtain ⟨hp_89, hp_90⟩ := hp
        have hp_89 : nsteps_87.toInt = (mi 48).toInt + 1 := hp_89
        have hp_90 : EM (mf 46) (mf 47) gstepOp_85 gstepHow_86 (((mi 48).toInt).toNat) (0 : Int32) r_34 := hp_90
        refine lv_iconst (pc := 68) (v := 0) E.1 E.2.1 dX12_readStep_68 (by decide +kernel) ?_
        exact em_i (w1 := (fun (u : Int32 × Int32 × Int32 × Int32 × Int32 × Int32 × (Nat → Int32) × (Nat → Int32) × Int32) => (MW cI cJ M mr (upd (upd (upd (upd (upd (upd (upd mi 22 u.1) 23 u.2.1) 24 u.2.2.1) 25 u.2.2.2.1) 38 u.2.2.2.2.1) 39 u.2.2.2.2.2.1) 48 u.2.2.2.2.2.2.2.2) (va_up (va_up mf 46 u.2.2.2.2.2.2.1) 47 u.2.2.2.2.2.2.2.1) mg))) E hr hlk (nspot_62, nfrom_63, ntoken_64, nvalue_65, nreadFault_66, nreadPlace_67, gstepOp_85, gstepHow_86, nsteps_87) hw88 ⟨hp_69, hp_70, hp_71, hp_72, hp_73, hp_74, hp_75, (fun _ => (show (∀ t : Nat, RSP (mf 46) (mf 47) (mi 6).toInt (((mi 48).toInt).toNat) t → RSP gstepOp_85 gstepHow_86 (mi 6).toInt ((nsteps_87.toInt).toNat) t) from (fun t q => RSP_snoc q hp_90 (Or.inl ⟨rfl, (by omega), rfl⟩) (by omega)))), (show (∀ p : Int, TKR (mf 20) (mi 21).toInt p (mi 23).toInt (mi 22).toInt (mi 24).toInt (mi 25).toInt → IR (mf 20) (mi 21).toInt (itR (mf 20) (mi 21).toInt ((mi 6).toInt - 1) (((mi 35).toInt).toNat) p) ((mi 25).toInt - 28) (stpL (mf 46) (mf 47) (((mi 48).toInt).toNat)) (stpL gstepOp_85 gstepHow_86 ((nsteps_87.toInt).toNat)) (0 : Int32).toInt nreadFault_66.toInt nreadPlace_67.toInt nfrom_63.toInt nspot_62.toInt ntoken_64.toInt nvalue_65.toInt) from (fun p hp => by rw [it_go hp (by omega) (by omega)]; have q := hp_50 _ hp_30; rw [show v_32.toInt = (mi 6).toInt - 1 from by omega] at q; rw [show (mi 25).toInt - 28 = 0 from by omega]; exact IR_ok q (by omega) hp_76 (show (0 : Int32).toInt ≠ -1 from by decide +kernel) (show (0 : Int32).toInt ≠ -1 from by decide +kernel) hp_90 (by decide +kernel) rfl (by omega))), (Or.inr (⟨rfl, (by show (mi 23).toInt + 3 ≤ nfrom_63.toInt; omega), hp_89⟩))⟩ (Nat.le_of_ble_eq_true rfl) (Nat.le_of_ble_eq_true rfl) dX12_readStep_69
  · skip
    have ha_11 : ¬ (mi 24).toInt = 2 := ha_11
    exfalso; omega
  · skip
    have ha_12 : ¬ (mi 25).toInt = (28 : Int32).toInt := ha_12
    rw [show (28 : Int32).toInt = 28 from by decide +kernel] at ha_12
    refine lv_istore_n (pc := 6) (lv' := [(1, .int 0), (0, .ref M)]) E.1 E.2.1 dX12_readStep_6 rfl hl3 (by decide) rfl (fun ls hl91 => ?_)
    refine lv_aload_n (pc := 7) E.1 E.2.1 dX12_readStep_7 rfl (lv_at hl91 1 rfl) ?_
    refine cm_v (pc := 8) hw7 (rn_M (As := []) (rest := []) E hw7 (s_readsT l D cI cJ _ M mr mi mf mg (by show 0 ≤ (mi 22).toInt; omega) h2 h3 h7 a_tape (show (∀ j : Nat, j < 154 → (mf 26) j = w0 j) from lf_words)) (gdV q_1666 q_1668 q_52 q_162 q_1669) hdV_X12_reads ⟨rfl, rfl⟩ ⟨(Nat.le_of_ble_eq_true rfl), (Nat.le_of_ble_eq_true rfl)⟩ ⟨(Nat.le_of_ble_eq_true rfl), (Nat.le_of_ble_eq_true rfl)⟩ 12 rfl rfl rfl rfl hl91.1 rfl (Nat.le_of_ble_eq_true rfl) dX12_readStep_8) (fun u_92 H1 locs hp hw94 => ?_)
    obtain ⟨nspot_95, nfrom_96, ntoken_97, nvalue_98⟩ := u_92
    generalize H1 = H at hw94 ⊢
    have hw99 : WD D A s.heap (MW cI cJ M mr (upd (upd (upd (upd mi 22 nspot_95) 23 nfrom_96) 24 ntoken_97) 25 nvalue_98) mf mg) H locs := hw94
    obtain ⟨hp_100, hp_101, hp_102, hp_103, hp_104, hp_105, hp_106, hp_107, hp_108⟩ := hp
    have hp_100 : 0 ≤ nfrom_96.toInt := hp_100
    have hp_101 : nfrom_96.toInt ≤ nspot_95.toInt := hp_101
    have hp_102 : nspot_95.toInt ≤ (mi 21).toInt := hp_102
    have hp_103 : 0 ≤ ntoken_97.toInt := hp_103
    have hp_104 : ntoken_97.toInt ≤ 4 := hp_104
    have hp_105 : ntoken_97.toInt ≤ 4 * nspot_95.toInt - 4 * nfrom_96.toInt := hp_105
    have hp_106 : (mi 22).toInt ≤ nfrom_96.toInt := hp_106
    have hp_107 : AGN ntoken_97.toInt nvalue_98.toInt nfrom_96.toInt nspot_95.toInt := hp_107
    have hp_108 : TKR (mf 20) (mi 21).toInt (mi 22).toInt nfrom_96.toInt nspot_95.toInt ntoken_97.toInt nvalue_98.toInt := hp_108
    refine lv_iload_n (pc := 11) E.1 E.2.1 dX12_readStep_11 rfl (lv_at hl91 0 rfl) ?_
    refine lv_if_eq (pc := 12) (tgt := 29) E.1 E.2.1 dX12_readStep_12 (by decide) (fun _ => ?_) (fun c_109 => absurd (meqE (a := 0) (b := 0) (by decide +kernel) (by decide +kernel) (by omega)) c_109)
    refine lv_aload_n (pc := 29) E.1 E.2.1 dX12_readStep_29 rfl (lv_at hl91 1 rfl) ?_
    refine lv_iconst (pc := 30) (v := 1) E.1 E.2.1 dX12_readStep_30 (by decide +kernel) ?_
    refine lv_bipush (pc := 31) (v := 60) E.1 E.2.1 dX12_readStep_31 (by decide +kernel) ?_
    refine cm_i (pc := 33) hw99 (rn_M (As := [.int 1, .int 60]) (rest := []) E hw99 (s_readNumberT l D cI cJ _ M mr (upd (upd (upd (upd mi 22 nspot_95) 23 nfrom_96) 24 ntoken_97) 25 nvalue_98) mf mg 1 60 hp_100 hp_101 hp_102 h3 hp_103 hp_104 hp_105 h7 a_tape (show (∀ j : Nat, j < 154 → (mf 26) j = w0 j) from lf_words) (show AGN ntoken_97.toInt nvalue_98.toInt nfrom_96.toInt nspot_95.toInt from hp_107)) (gdV q_1706 q_1708 q_62 q_162 q_1709) hdV_X12_readNumber ⟨rfl, rfl⟩ ⟨(Nat.le_of_ble_eq_true rfl), (Nat.le_of_ble_eq_true rfl)⟩ ⟨(Nat.le_of_ble_eq_true rfl), (Nat.le_of_ble_eq_true rfl)⟩ 12 rfl rfl rfl rfl hl91.1 rfl (Nat.le_of_ble_eq_true rfl) dX12_readStep_33) (fun r_111 u_110 H1 locs hp hw112 => ?_)
    obtain ⟨nspot_113, nfrom_114, ntoken_115, nvalue_116, nreadFault_117, nreadPlace_118⟩ := u_110
    generalize H1 = H at hw112 ⊢
    have hw119 : WD D A s.heap (MW cI cJ M mr (upd (upd (upd (upd (upd (upd mi 22 nspot_113) 23 nfrom_114) 24 ntoken_115) 25 nvalue_116) 38 nreadFault_117) 39 nreadPlace_118) mf mg) H locs := hw112
    obtain ⟨hp_120, hp_121, hp_122, hp_123, hp_124, hp_125, hp_126, hp_127, hp_128⟩ := hp
    have hp_120 : 0 ≤ nfrom_114.toInt := hp_120
    have hp_121 : nfrom_114.toInt ≤ nspot_113.toInt := hp_121
    have hp_122 : nspot_113.toInt ≤ (mi 21).toInt := hp_122
    have hp_123 : 0 ≤ ntoken_115.toInt := hp_123
    have hp_124 : ntoken_115.toInt ≤ 4 := hp_124
    have hp_125 : ntoken_115.toInt ≤ 4 * nspot_113.toInt - 4 * nfrom_114.toInt := hp_125
    have hp_126 : AGN ntoken_115.toInt nvalue_116.toInt nfrom_114.toInt nspot_113.toInt := hp_126
    have hp_127 : (∀ p : Int, TKR (mf 20) (mi 21).toInt p nfrom_96.toInt nspot_95.toInt ntoken_97.toInt nvalue_98.toInt → RN (mf 20) (mi 21).toInt (numR (mf 20) (mi 21).toInt ((1 : Int32) : Int32).toInt ((60 : Int32) : Int32).toInt p) (r_111 : Int32).toInt nreadFault_117.toInt nreadPlace_118.toInt nfrom_114.toInt nspot_113.toInt ntoken_115.toInt nvalue_116.toInt) := hp_127
    rcases hp_128 with rfl | ⟨ha_129, ha_130, ha_131⟩
    · skip
      refine lv_istore_n (pc := 36) (lv' := [(2, .int (-1)), (1, .int 0), (0, .ref M)]) E.1 E.2.1 dX12_readStep_36 rfl hl91 (by decide) rfl (fun ls hl132 => ?_)
      refine lv_iload_n (pc := 37) E.1 E.2.1 dX12_readStep_37 rfl (lv_at hl132 0 rfl) ?_
      refine lv_iconst (pc := 38) (v := (-1)) E.1 E.2.1 dX12_readStep_38 (by decide +kernel) ?_
      refine lv_icmp_eq (pc := 39) (tgt := 52) E.1 E.2.1 dX12_readStep_39 (by decide) (fun _ => ?_) (fun c_133 => absurd (meqE (a := (-1)) (b := (-1)) (by decide +kernel) (by decide +kernel) (by omega)) c_133)
      refine lv_iconst (pc := 52) (v := (-1)) E.1 E.2.1 dX12_readStep_52 (by decide +kernel) ?_
      exact em_i (w1 := (fun (u : Int32 × Int32 × Int32 × Int32 × Int32 × Int32 × (Nat → Int32) × (Nat → Int32) × Int32) => (MW cI cJ M mr (upd (upd (upd (upd (upd (upd (upd mi 22 u.1) 23 u.2.1) 24 u.2.2.1) 25 u.2.2.2.1) 38 u.2.2.2.2.1) 39 u.2.2.2.2.2.1) 48 u.2.2.2.2.2.2.2.2) (va_up (va_up mf 46 u.2.2.2.2.2.2.1) 47 u.2.2.2.2.2.2.2.1) mg))) E hr hlk (nspot_113, nfrom_114, ntoken_115, nvalue_116, nreadFault_117, nreadPlace_118, (mf 46), (mf 47), (mi 48)) hw119 ⟨hp_120, hp_121, hp_122, hp_123, hp_124, hp_125, hp_126, (fun h => absurd h (by decide +kernel)), (show (∀ p : Int, TKR (mf 20) (mi 21).toInt p (mi 23).toInt (mi 22).toInt (mi 24).toInt (mi 25).toInt → IR (mf 20) (mi 21).toInt (itR (mf 20) (mi 21).toInt ((mi 6).toInt - 1) (((mi 35).toInt).toNat) p) ((mi 25).toInt - 28) (stpL (mf 46) (mf 47) (((mi 48).toInt).toNat)) (stpL (mf 46) (mf 47) (((mi 48).toInt).toNat)) ((-1) : Int32).toInt nreadFault_117.toInt nreadPlace_118.toInt nfrom_114.toInt nspot_113.toInt ntoken_115.toInt nvalue_116.toInt) from (fun p hp => by rw [it_stay hp (by omega) (by omega)]; have q := hp_127 _ hp_108; exact IR_num q (by decide +kernel) (by decide +kernel) (by decide +kernel) rfl rfl)), (Or.inl rfl)⟩ (Nat.le_of_ble_eq_true rfl) (Nat.le_of_ble_eq_true rfl) dX12_readStep_53
    · skip
      have ha_129 : (1 : Int32).toInt ≤ r_111.toInt := ha_129
      rw [show (1 : Int32).toInt = 1 from by decide +kernel] at ha_129
      have ha_130 : r_111.toInt ≤ (60 : Int32).toInt := ha_130
      rw [show (60 : Int32).toInt = 60 from by decide +kernel] at ha_130
      have ha_131 : nfrom_96.toInt + 1 ≤ nfrom_114.toInt := ha_131
      refine lv_istore_n (pc := 36) (lv' := [(2, .int r_111), (1, .int 0), (0, .ref M)]) E.1 E.2.1 dX12_readStep_36 rfl hl91 (by decide) rfl (fun ls hl134 => ?_)
      refine lv_iload_n (pc := 37) E.1 E.2.1 dX12_readStep_37 rfl (lv_at hl134 0 rfl) ?_
      refine lv_iconst (pc := 38) (v := (-1)) E.1 E.2.1 dX12_readStep_38 (by decide +kernel) ?_
      refine lv_icmp_eq (pc := 39) (tgt := 52) E.1 E.2.1 dX12_readStep_39 (by decide) (fun c_135 => absurd c_135 (mneE (a := r_111.toInt) (b := (-1)) rfl (by decide +kernel) (by omega))) (fun _ => ?_)
      refine lv_aload_n (pc := 42) E.1 E.2.1 dX12_readStep_42 rfl (lv_at hl134 2 rfl) ?_
      refine lv_bipush (pc := 43) (v := 59) E.1 E.2.1 dX12_readStep_43 (by decide +kernel) ?_
      refine cm_i (pc := 45) hw119 (rn_M (As := [.int 59]) (rest := []) E hw119 (s_readMarkT l D cI cJ _ M mr (upd (upd (upd (upd (upd (upd mi 22 nspot_113) 23 nfrom_114) 24 ntoken_115) 25 nvalue_116) 38 nreadFault_117) 39 nreadPlace_118) mf mg 59 hp_120 hp_121 hp_122 h3 hp_123 hp_124 hp_125 h7 a_tape (show (∀ j : Nat, j < 154 → (mf 26) j = w0 j) from lf_words) (show AGN ntoken_115.toInt nvalue_116.toInt nfrom_114.toInt nspot_113.toInt from hp_126)) (gdV q_1714 q_1716 q_64 q_162 q_1717) hdV_X12_readMark ⟨rfl, rfl⟩ ⟨(Nat.le_of_ble_eq_true rfl), (Nat.le_of_ble_eq_true rfl)⟩ ⟨(Nat.le_of_ble_eq_true rfl), (Nat.le_of_ble_eq_true rfl)⟩ 12 rfl rfl rfl rfl hl134.1 rfl (Nat.le_of_ble_eq_true rfl) dX12_readStep_45) (fun r_137 u_136 H1 locs hp hw138 => ?_)
      obtain ⟨nspot_139, nfrom_140, ntoken_141, nvalue_142, nreadFault_143, nreadPlace_144⟩ := u_136
      generalize H1 = H at hw138 ⊢
      have hw145 : WD D A s.heap (MW cI cJ M mr (upd (upd (upd (upd (upd (upd mi 22 nspot_139) 23 nfrom_140) 24 ntoken_141) 25 nvalue_142) 38 nreadFault_143) 39 nreadPlace_144) mf mg) H locs := hw138
      obtain ⟨hp_146, hp_147, hp_148, hp_149, hp_150, hp_151, hp_152, hp_153, hp_154⟩ := hp
      have hp_146 : 0 ≤ nfrom_140.toInt := hp_146
      have hp_147 : nfrom_140.toInt ≤ nspot_139.toInt := hp_147
      have hp_148 : nspot_139.toInt ≤ (mi 21).toInt := hp_148
      have hp_149 : 0 ≤ ntoken_141.toInt := hp_149
      have hp_150 : ntoken_141.toInt ≤ 4 := hp_150
      have hp_151 : ntoken_141.toInt ≤ 4 * nspot_139.toInt - 4 * nfrom_140.toInt := hp_151
      have hp_152 : AGN ntoken_141.toInt nvalue_142.toInt nfrom_140.toInt nspot_139.toInt := hp_152
      have hp_153 : (∀ p : Int, TKR (mf 20) (mi 21).toInt p nfrom_114.toInt nspot_113.toInt ntoken_115.toInt nvalue_116.toInt → RX (mf 20) (mi 21).toInt (markR (mf 20) (mi 21).toInt ((59 : Int32) : Int32).toInt p) (r_137 : Int32).toInt nreadFault_143.toInt nreadPlace_144.toInt nfrom_140.toInt nspot_139.toInt ntoken_141.toInt nvalue_142.toInt) := hp_153
      rcases hp_154 with rfl | ⟨rfl, ha_155⟩
      · skip
        refine lv_iconst (pc := 48) (v := (-1)) E.1 E.2.1 dX12_readStep_48 (by decide +kernel) ?_
        refine lv_icmp_ne (pc := 49) (tgt := 54) E.1 E.2.1 dX12_readStep_49 (by decide) (fun c_156 => absurd (meqE (a := (-1)) (b := (-1)) (by decide +kernel) (by decide +kernel) (by omega)) c_156) (fun _ => ?_)
        refine lv_iconst (pc := 52) (v := (-1)) E.1 E.2.1 dX12_readStep_52 (by decide +kernel) ?_
        exact em_i (w1 := (fun (u : Int32 × Int32 × Int32 × Int32 × Int32 × Int32 × (Nat → Int32) × (Nat → Int32) × Int32) => (MW cI cJ M mr (upd (upd (upd (upd (upd (upd (upd mi 22 u.1) 23 u.2.1) 24 u.2.2.1) 25 u.2.2.2.1) 38 u.2.2.2.2.1) 39 u.2.2.2.2.2.1) 48 u.2.2.2.2.2.2.2.2) (va_up (va_up mf 46 u.2.2.2.2.2.2.1) 47 u.2.2.2.2.2.2.2.1) mg))) E hr hlk (nspot_139, nfrom_140, ntoken_141, nvalue_142, nreadFault_143, nreadPlace_144, (mf 46), (mf 47), (mi 48)) hw145 ⟨hp_146, hp_147, hp_148, hp_149, hp_150, hp_151, hp_152, (fun h => absurd h (by decide +kernel)), (show (∀ p : Int, TKR (mf 20) (mi 21).toInt p (mi 23).toInt (mi 22).toInt (mi 24).toInt (mi 25).toInt → IR (mf 20) (mi 21).toInt (itR (mf 20) (mi 21).toInt ((mi 6).toInt - 1) (((mi 35).toInt).toNat) p) ((mi 25).toInt - 28) (stpL (mf 46) (mf 47) (((mi 48).toInt).toNat)) (stpL (mf 46) (mf 47) (((mi 48).toInt).toNat)) ((-1) : Int32).toInt nreadFault_143.toInt nreadPlace_144.toInt nfrom_140.toInt nspot_139.toInt ntoken_141.toInt nvalue_142.toInt) from (fun p hp => by rw [it_stay hp (by omega) (by omega)]; have q := hp_127 _ hp_108; exact IR_mark q (by omega) hp_153 (by decide +kernel) (by decide +kernel) rfl rfl)), (Or.inl rfl)⟩ (Nat.le_of_ble_eq_true rfl) (Nat.le_of_ble_eq_true rfl) dX12_readStep_53
      · skip
        have ha_155 : nfrom_114.toInt + 1 ≤ nfrom_140.toInt := ha_155
        refine lv_iconst (pc := 48) (v := (-1)) E.1 E.2.1 dX12_readStep_48 (by decide +kernel) ?_
        refine lv_icmp_ne (pc := 49) (tgt := 54) E.1 E.2.1 dX12_readStep_49 (by decide) (fun _ => ?_) (fun c_157 => absurd c_157 (mneE (a := 0) (b := (-1)) (by decide +kernel) (by decide +kernel) (by omega)))
        refine lv_aload_n (pc := 54) E.1 E.2.1 dX12_readStep_54 rfl (lv_at hl134 2 rfl) ?_
        refine lv_iload_n (pc := 55) E.1 E.2.1 dX12_readStep_55 rfl (lv_at hl134 1 rfl) ?_
        refine lv_if_eq (pc := 56) (tgt := 63) E.1 E.2.1 dX12_readStep_56 (by decide) (fun _ => ?_) (fun c_158 => absurd (meqE (a := 0) (b := 0) (by decide +kernel) (by decide +kernel) (by omega)) c_158)
        refine lv_iconst (pc := 63) (v := 1) E.1 E.2.1 dX12_readStep_63 (by decide +kernel) ?_
        refine lv_iload_n (pc := 64) E.1 E.2.1 dX12_readStep_64 rfl (lv_at hl134 0 rfl) ?_
        refine cm_v (pc := 65) hw145 (rn_M (As := [.int 1, .int r_111]) (rest := []) E hw145 (s_emitsStep l D cI cJ _ M mr (upd (upd (upd (upd (upd (upd mi 22 nspot_139) 23 nfrom_140) 24 ntoken_141) 25 nvalue_142) 38 nreadFault_143) 39 nreadPlace_144) mf mg 1 r_111 (by show 0 ≤ (mi 48).toInt ∧ (mi 48).toInt ≤ 139; omega)) (gdV q_1746 q_1748 q_72 q_162 q_1749) hdV_X12_emitsStep ⟨rfl, rfl⟩ ⟨(Nat.le_of_ble_eq_true rfl), (Nat.le_of_ble_eq_true rfl)⟩ ⟨(Nat.le_of_ble_eq_true rfl), (Nat.le_of_ble_eq_true rfl)⟩ 12 rfl rfl rfl rfl hl134.1 rfl (Nat.le_of_ble_eq_true rfl) dX12_readStep_65) (fun u_159 H1 locs hp hw161 => ?_)
        obtain ⟨gstepOp_162, gstepHow_163, nsteps_164⟩ := u_159
        generalize H1 = H at hw161 ⊢
        have hw165 : WD D A s.heap (MW cI cJ M mr (upd (upd (upd (upd (upd (upd (upd mi 22 nspot_139) 23 nfrom_140) 24 ntoken_141) 25 nvalue_142) 38 nreadFault_143) 39 nreadPlace_144) 48 nsteps_164) (va_up (va_up mf 46 gstepOp_162) 47 gstepHow_163) mg) H locs := hw161
        obtain ⟨hp_166, hp_167⟩ := hp
        have hp_166 : nsteps_164.toInt = (mi 48).toInt + 1 := hp_166
        have hp_167 : EM (mf 46) (mf 47) gstepOp_162 gstepHow_163 (((mi 48).toInt).toNat) (1 : Int32) r_111 := hp_167
        refine lv_iconst (pc := 68) (v := 0) E.1 E.2.1 dX12_readStep_68 (by decide +kernel) ?_
        exact em_i (w1 := (fun (u : Int32 × Int32 × Int32 × Int32 × Int32 × Int32 × (Nat → Int32) × (Nat → Int32) × Int32) => (MW cI cJ M mr (upd (upd (upd (upd (upd (upd (upd mi 22 u.1) 23 u.2.1) 24 u.2.2.1) 25 u.2.2.2.1) 38 u.2.2.2.2.1) 39 u.2.2.2.2.2.1) 48 u.2.2.2.2.2.2.2.2) (va_up (va_up mf 46 u.2.2.2.2.2.2.1) 47 u.2.2.2.2.2.2.2.1) mg))) E hr hlk (nspot_139, nfrom_140, ntoken_141, nvalue_142, nreadFault_143, nreadPlace_144, gstepOp_162, gstepHow_163, nsteps_164) hw165 ⟨hp_146, hp_147, hp_148, hp_149, hp_150, hp_151, hp_152, (fun _ => (show (∀ t : Nat, RSP (mf 46) (mf 47) (mi 6).toInt (((mi 48).toInt).toNat) t → RSP gstepOp_162 gstepHow_163 (mi 6).toInt ((nsteps_164.toInt).toNat) t) from (fun t q => RSP_snoc q hp_167 (Or.inr (Or.inl ⟨rfl, (by omega), rfl⟩)) (by omega)))), (show (∀ p : Int, TKR (mf 20) (mi 21).toInt p (mi 23).toInt (mi 22).toInt (mi 24).toInt (mi 25).toInt → IR (mf 20) (mi 21).toInt (itR (mf 20) (mi 21).toInt ((mi 6).toInt - 1) (((mi 35).toInt).toNat) p) ((mi 25).toInt - 28) (stpL (mf 46) (mf 47) (((mi 48).toInt).toNat)) (stpL gstepOp_162 gstepHow_163 ((nsteps_164.toInt).toNat)) (0 : Int32).toInt nreadFault_143.toInt nreadPlace_144.toInt nfrom_140.toInt nspot_139.toInt ntoken_141.toInt nvalue_142.toInt) from (fun p hp => by rw [it_stay hp (by omega) (by omega)]; have q := hp_127 _ hp_108; rw [show (mi 25).toInt - 28 = 1 from by omega]; exact IR_ok q (by omega) hp_153 (show (0 : Int32).toInt ≠ -1 from by decide +kernel) (show (0 : Int32).toInt ≠ -1 from by decide +kernel) hp_167 (by decide +kernel) rfl (by omega))), (Or.inr (⟨rfl, (by show (mi 23).toInt + 3 ≤ nfrom_140.toInt; omega), hp_166⟩))⟩ (Nat.le_of_ble_eq_true rfl) (Nat.le_of_ble_eq_true rfl) dX12_readStep_69
