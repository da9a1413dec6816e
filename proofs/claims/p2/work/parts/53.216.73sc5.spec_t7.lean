set_option maxHeartbeats 4000000 in
set_option maxRecDepth 100000 in
theorem s_isWordT (l : Launch) (D : va_G) (cI cJ : ClassId) (sz M : Nat) (mr : Nat → Nat) (mi : Nat → Int32) (mf : Nat → Nat → Int32) (mg : Nat → Nat → Int64) (z_w : Int32)  : Met l yX12_isWord (Cond.code yX12_isWord cX12_isWord 2 (some .boolean) :: GW) ({ frames := 1, cells := 0, slots := 0, locals := 40 } : Room) (va_Pc [.ref M, .int z_w] (PW D cI cJ sz (MW cI cJ M mr mi mf mg) xT)) (va_Qi (fun (r : Int32) (u : Unit) => ((r = 1 ∧ (mi 24).toInt = 2 ∧ (mi 25).toInt = z_w.toInt) ∨ (r = 0 ∧ ¬ (mi 24).toInt = 2) ∨ (r = 0 ∧ ¬ (mi 25).toInt = z_w.toInt))) (fun u => QW D cI cJ (va_A (MW cI cJ M mr mi mf mg) sz) ((fun (u : Unit) => (MW cI cJ M mr mi mf mg)) u)) (va_A (MW cI cJ M mr mi mf mg) sz)) 0 0 (va_A (MW cI cJ M mr mi mf mg) sz) := by
  refine mk_met (y := yX12_isWord) (bytes := cX12_isWord) (maxL := 2) (avs := [.ref M, .int z_w]) (WS := (MW cI cJ M mr mi mf mg)) (Qf := fun A => va_Qi (fun (r : Int32) (u : Unit) => ((r = 1 ∧ (mi 24).toInt = 2 ∧ (mi 25).toInt = z_w.toInt) ∨ (r = 0 ∧ ¬ (mi 24).toInt = 2) ∨ (r = 0 ∧ ¬ (mi 25).toInt = z_w.toInt))) (fun u => QW D cI cJ A ((fun (u : Unit) => (MW cI cJ M mr mi mf mg)) u)) A) (by decide) (Nat.le_of_ble_eq_true rfl) ?_
  intro p e s m below meth c A ls E hr hlk hnm hX hw1 hl2
  have hl3 : lv_has ls 2 [(0, .ref M), (1, .int z_w)] := hl2
  refine lv_aload_n (pc := 0) E.1 E.2.1 dX12_isWord_0 rfl (lv_at hl3 0 rfl) ?_
  refine x_get (pc := 1) (T := TX12) (N := 70) (ci := 12) (v := .int (mi 24)) E hw1 inX12 0 24 q_1423 rfl rfl (by decide) rfl rfl dX12_isWord_1 ?_
  refine lv_iconst (pc := 4) (v := 2) E.1 E.2.1 dX12_isWord_4 (by decide +kernel) ?_
  refine lv_icmp_ne (pc := 5) (tgt := 20) E.1 E.2.1 dX12_isWord_5 (by decide) (fun c_4 => ?_) (fun c_4 => ?_)
  · skip
    have hc_4 := neE (a := (mi 24).toInt) (b := 2) rfl (by decide +kernel) c_4
    refine lv_iconst (pc := 20) (v := 0) E.1 E.2.1 dX12_isWord_20 (by decide +kernel) ?_
    exact em_z (w1 := (fun (u : Unit) => (MW cI cJ M mr mi mf mg))) E hr hlk () hw1 (Or.inr (Or.inl ⟨rfl, (by show ¬ (mi 24).toInt = 2; omega)⟩)) (by decide +kernel) (Nat.le_of_ble_eq_true rfl) (Nat.le_of_ble_eq_true rfl) dX12_isWord_21
  · skip
    have hc_4 := eqE (a := (mi 24).toInt) (b := 2) rfl (by decide +kernel) c_4
    refine lv_aload_n (pc := 8) E.1 E.2.1 dX12_isWord_8 rfl (lv_at hl3 0 rfl) ?_
    refine x_get (pc := 9) (T := TX12) (N := 70) (ci := 12) (v := .int (mi 25)) E hw1 inX12 0 25 q_1424 rfl rfl (by decide) rfl rfl dX12_isWord_9 ?_
    refine lv_iload_n (pc := 12) E.1 E.2.1 dX12_isWord_12 rfl (lv_at hl3 1 rfl) ?_
    refine lv_icmp_ne (pc := 13) (tgt := 20) E.1 E.2.1 dX12_isWord_13 (by decide) (fun c_5 => ?_) (fun c_5 => ?_)
    · skip
      have hc_5 := neE (a := (mi 25).toInt) (b := z_w.toInt) rfl rfl c_5
      refine lv_iconst (pc := 20) (v := 0) E.1 E.2.1 dX12_isWord_20 (by decide +kernel) ?_
      exact em_z (w1 := (fun (u : Unit) => (MW cI cJ M mr mi mf mg))) E hr hlk () hw1 (Or.inr (Or.inr (⟨rfl, (by show ¬ (mi 25).toInt = z_w.toInt; omega)⟩))) (by decide +kernel) (Nat.le_of_ble_eq_true rfl) (Nat.le_of_ble_eq_true rfl) dX12_isWord_21
    · skip
      have hc_5 := eqE (a := (mi 25).toInt) (b := z_w.toInt) rfl rfl c_5
      refine lv_iconst (pc := 16) (v := 1) E.1 E.2.1 dX12_isWord_16 (by decide +kernel) ?_
      refine lv_goto (pc := 17) (tgt := 21) E.1 E.2.1 dX12_isWord_17 (by decide) ?_
      exact em_z (w1 := (fun (u : Unit) => (MW cI cJ M mr mi mf mg))) E hr hlk () hw1 (Or.inl ⟨rfl, (by show (mi 24).toInt = 2; omega), (by show (mi 25).toInt = z_w.toInt; omega)⟩) (by decide +kernel) (Nat.le_of_ble_eq_true rfl) (Nat.le_of_ble_eq_true rfl) dX12_isWord_21

set_option maxHeartbeats 4000000 in
set_option maxRecDepth 100000 in
theorem s_isSignT (l : Launch) (D : va_G) (cI cJ : ClassId) (sz M : Nat) (mr : Nat → Nat) (mi : Nat → Int32) (mf : Nat → Nat → Int32) (mg : Nat → Nat → Int64) (z_c : Int32)  : Met l yX12_isSign (Cond.code yX12_isSign cX12_isSign 2 (some .boolean) :: GW) ({ frames := 1, cells := 0, slots := 0, locals := 40 } : Room) (va_Pc [.ref M, .int z_c] (PW D cI cJ sz (MW cI cJ M mr mi mf mg) xT)) (va_Qi (fun (r : Int32) (u : Unit) => ((r = 1 ∧ (mi 24).toInt = 4 ∧ (mi 25).toInt = z_c.toInt) ∨ (r = 0 ∧ ¬ (mi 24).toInt = 4) ∨ (r = 0 ∧ ¬ (mi 25).toInt = z_c.toInt))) (fun u => QW D cI cJ (va_A (MW cI cJ M mr mi mf mg) sz) ((fun (u : Unit) => (MW cI cJ M mr mi mf mg)) u)) (va_A (MW cI cJ M mr mi mf mg) sz)) 0 0 (va_A (MW cI cJ M mr mi mf mg) sz) := by
  refine mk_met (y := yX12_isSign) (bytes := cX12_isSign) (maxL := 2) (avs := [.ref M, .int z_c]) (WS := (MW cI cJ M mr mi mf mg)) (Qf := fun A => va_Qi (fun (r : Int32) (u : Unit) => ((r = 1 ∧ (mi 24).toInt = 4 ∧ (mi 25).toInt = z_c.toInt) ∨ (r = 0 ∧ ¬ (mi 24).toInt = 4) ∨ (r = 0 ∧ ¬ (mi 25).toInt = z_c.toInt))) (fun u => QW D cI cJ A ((fun (u : Unit) => (MW cI cJ M mr mi mf mg)) u)) A) (by decide) (Nat.le_of_ble_eq_true rfl) ?_
  intro p e s m below meth c A ls E hr hlk hnm hX hw1 hl2
  have hl3 : lv_has ls 2 [(0, .ref M), (1, .int z_c)] := hl2
  refine lv_aload_n (pc := 0) E.1 E.2.1 dX12_isSign_0 rfl (lv_at hl3 0 rfl) ?_
  refine x_get (pc := 1) (T := TX12) (N := 70) (ci := 12) (v := .int (mi 24)) E hw1 inX12 0 24 q_1423 rfl rfl (by decide) rfl rfl dX12_isSign_1 ?_
  refine lv_iconst (pc := 4) (v := 4) E.1 E.2.1 dX12_isSign_4 (by decide +kernel) ?_
  refine lv_icmp_ne (pc := 5) (tgt := 20) E.1 E.2.1 dX12_isSign_5 (by decide) (fun c_4 => ?_) (fun c_4 => ?_)
  · skip
    have hc_4 := neE (a := (mi 24).toInt) (b := 4) rfl (by decide +kernel) c_4
    refine lv_iconst (pc := 20) (v := 0) E.1 E.2.1 dX12_isSign_20 (by decide +kernel) ?_
    exact em_z (w1 := (fun (u : Unit) => (MW cI cJ M mr mi mf mg))) E hr hlk () hw1 (Or.inr (Or.inl ⟨rfl, (by show ¬ (mi 24).toInt = 4; omega)⟩)) (by decide +kernel) (Nat.le_of_ble_eq_true rfl) (Nat.le_of_ble_eq_true rfl) dX12_isSign_21
  · skip
    have hc_4 := eqE (a := (mi 24).toInt) (b := 4) rfl (by decide +kernel) c_4
    refine lv_aload_n (pc := 8) E.1 E.2.1 dX12_isSign_8 rfl (lv_at hl3 0 rfl) ?_
    refine x_get (pc := 9) (T := TX12) (N := 70) (ci := 12) (v := .int (mi 25)) E hw1 inX12 0 25 q_1424 rfl rfl (by decide) rfl rfl dX12_isSign_9 ?_
    refine lv_iload_n (pc := 12) E.1 E.2.1 dX12_isSign_12 rfl (lv_at hl3 1 rfl) ?_
    refine lv_icmp_ne (pc := 13) (tgt := 20) E.1 E.2.1 dX12_isSign_13 (by decide) (fun c_5 => ?_) (fun c_5 => ?_)
    · skip
      have hc_5 := neE (a := (mi 25).toInt) (b := z_c.toInt) rfl rfl c_5
      refine lv_iconst (pc := 20) (v := 0) E.1 E.2.1 dX12_isSign_20 (by decide +kernel) ?_
      exact em_z (w1 := (fun (u : Unit) => (MW cI cJ M mr mi mf mg))) E hr hlk () hw1 (Or.inr (Or.inr (⟨rfl, (by show ¬ (mi 25).toInt = z_c.toInt; omega)⟩))) (by decide +kernel) (Nat.le_of_ble_eq_true rfl) (Nat.le_of_ble_eq_true rfl) dX12_isSign_21
    · skip
      have hc_5 := eqE (a := (mi 25).toInt) (b := z_c.toInt) rfl rfl c_5
      refine lv_iconst (pc := 16) (v := 1) E.1 E.2.1 dX12_isSign_16 (by decide +kernel) ?_
      refine lv_goto (pc := 17) (tgt := 21) E.1 E.2.1 dX12_isSign_17 (by decide) ?_
      exact em_z (w1 := (fun (u : Unit) => (MW cI cJ M mr mi mf mg))) E hr hlk () hw1 (Or.inl ⟨rfl, (by show (mi 24).toInt = 4; omega), (by show (mi 25).toInt = z_c.toInt; omega)⟩) (by decide +kernel) (Nat.le_of_ble_eq_true rfl) (Nat.le_of_ble_eq_true rfl) dX12_isSign_21

set_option maxHeartbeats 4000000 in
set_option maxRecDepth 100000 in
theorem s_errsT (l : Launch) (D : va_G) (cI cJ : ClassId) (sz M : Nat) (mr : Nat → Nat) (mi : Nat → Int32) (mf : Nat → Nat → Int32) (mg : Nat → Nat → Int64) (z_k : Int32)  : Met l yX12_errs (Cond.code yX12_errs cX12_errs 2 (some .int) :: GW) ({ frames := 1, cells := 0, slots := 0, locals := 40 } : Room) (va_Pc [.ref M, .int z_k] (PW D cI cJ sz (MW cI cJ M mr mi mf mg) xT)) (va_Qi (fun (r : Int32) (u : Int32 × Int32) => (u.1.toInt = z_k.toInt) ∧ (u.2.toInt = (mi 23).toInt) ∧ ((r = (-1)))) (fun u => QW D cI cJ (va_A (MW cI cJ M mr mi mf mg) sz) ((fun (u : Int32 × Int32) => (MW cI cJ M mr (upd (upd mi 38 u.1) 39 u.2) mf mg)) u)) (va_A (MW cI cJ M mr mi mf mg) sz)) 0 0 (va_A (MW cI cJ M mr mi mf mg) sz) := by
  refine mk_met (y := yX12_errs) (bytes := cX12_errs) (maxL := 2) (avs := [.ref M, .int z_k]) (WS := (MW cI cJ M mr mi mf mg)) (Qf := fun A => va_Qi (fun (r : Int32) (u : Int32 × Int32) => (u.1.toInt = z_k.toInt) ∧ (u.2.toInt = (mi 23).toInt) ∧ ((r = (-1)))) (fun u => QW D cI cJ A ((fun (u : Int32 × Int32) => (MW cI cJ M mr (upd (upd mi 38 u.1) 39 u.2) mf mg)) u)) A) (by decide) (Nat.le_of_ble_eq_true rfl) ?_
  intro p e s m below meth c A ls E hr hlk hnm hX hw1 hl2
  have hl3 : lv_has ls 2 [(0, .ref M), (1, .int z_k)] := hl2
  refine lv_aload_n (pc := 0) E.1 E.2.1 dX12_errs_0 rfl (lv_at hl3 0 rfl) ?_
  refine lv_iload_n (pc := 1) E.1 E.2.1 dX12_errs_1 rfl (lv_at hl3 1 rfl) ?_
  refine x_put (pc := 2) (T := TX12) (N := 70) (ci := 12) (ws' := (MW cI cJ M mr (upd mi 38 z_k) mf mg)) E hw1 inX12 tyX12_ok nmX12 0 38 q_1437 rfl rfl (by decide) rfl rfl rfl rfl (Nat.le_of_ble_eq_true rfl) rfl dX12_errs_2 (fun H locs hw4 => ?_)
  refine lv_aload_n (pc := 5) E.1 E.2.1 dX12_errs_5 rfl (lv_at hl3 0 rfl) ?_
  refine lv_aload_n (pc := 6) E.1 E.2.1 dX12_errs_6 rfl (lv_at hl3 0 rfl) ?_
  refine x_get (pc := 7) (T := TX12) (N := 70) (ci := 12) (v := .int (mi 23)) E hw4 inX12 0 23 q_1422 rfl rfl (by decide) rfl rfl dX12_errs_7 ?_
  refine x_put (pc := 10) (T := TX12) (N := 70) (ci := 12) (ws' := (MW cI cJ M mr (upd (upd mi 38 z_k) 39 (mi 23)) mf mg)) E hw4 inX12 tyX12_ok nmX12 0 39 q_1438 rfl rfl (by decide) rfl rfl rfl rfl (Nat.le_of_ble_eq_true rfl) rfl dX12_errs_10 (fun H locs hw5 => ?_)
  refine lv_iconst (pc := 13) (v := (-1)) E.1 E.2.1 dX12_errs_13 (by decide +kernel) ?_
  exact em_i (w1 := (fun (u : Int32 × Int32) => (MW cI cJ M mr (upd (upd mi 38 u.1) 39 u.2) mf mg))) E hr hlk (z_k, (mi 23)) hw5 ⟨rfl, rfl, (rfl)⟩ (Nat.le_of_ble_eq_true rfl) (Nat.le_of_ble_eq_true rfl) dX12_errs_14
set_option maxHeartbeats 4000000 in
set_option maxRecDepth 100000 in
theorem s_readWordT (l : Launch) (D : va_G) (cI cJ : ClassId) (sz M : Nat) (mr : Nat → Nat) (mi : Nat → Int32) (mf : Nat → Nat → Int32) (mg : Nat → Nat → Int64) (z_w : Int32) (h0 : 0 ≤ (mi 23).toInt) (h1 : (mi 23).toInt ≤ (mi 22).toInt) (h2 : (mi 22).toInt ≤ (mi 21).toInt) (h3 : (mi 21).toInt ≤ 400) (h4 : 0 ≤ (mi 24).toInt) (h5 : (mi 24).toInt ≤ 4) (h6 : (mi 24).toInt ≤ 4 * (mi 22).toInt - 4 * (mi 23).toInt) (h7 : ((mf 26) 153).toInt = 32) (a_tape : b255 (mf 20)) (lf_words : (∀ j : Nat, j < 154 → (mf 26) j = w0 j)) (lf_again : AGN ((mi 24).toInt) ((mi 25).toInt) ((mi 23).toInt) ((mi 22).toInt)) : Met l yX12_readWord (Cond.code yX12_readWord cX12_readWord 2 (some .int) :: GW) ({ frames := 4, cells := 0, slots := 0, locals := 105 } : Room) (va_Pc [.ref M, .int z_w] (PW D cI cJ sz (MW cI cJ M mr mi mf mg) xT)) (va_Qi (fun (r : Int32) (u : Int32 × Int32 × Int32 × Int32 × Int32 × Int32) => (0 ≤ u.2.1.toInt) ∧ (u.2.1.toInt ≤ u.1.toInt) ∧ (u.1.toInt ≤ (mi 21).toInt) ∧ (0 ≤ u.2.2.1.toInt) ∧ (u.2.2.1.toInt ≤ 4) ∧ (u.2.2.1.toInt ≤ 4 * u.1.toInt - 4 * u.2.1.toInt) ∧ (AGN u.2.2.1.toInt u.2.2.2.1.toInt u.2.1.toInt u.1.toInt) ∧ ((∀ p : Int, TKR (mf 20) (mi 21).toInt p (mi 23).toInt (mi 22).toInt (mi 24).toInt (mi 25).toInt → RX (mf 20) (mi 21).toInt (wordR (mf 20) (mi 21).toInt (z_w : Int32).toInt p) (r : Int32).toInt u.2.2.2.2.1.toInt u.2.2.2.2.2.toInt u.2.1.toInt u.1.toInt u.2.2.1.toInt u.2.2.2.1.toInt)) ∧ ((r = (-1)) ∨ (r = 0 ∧ (mi 23).toInt + 1 ≤ u.2.1.toInt))) (fun u => QW D cI cJ (va_A (MW cI cJ M mr mi mf mg) sz) ((fun (u : Int32 × Int32 × Int32 × Int32 × Int32 × Int32) => (MW cI cJ M mr (upd (upd (upd (upd (upd (upd mi 22 u.1) 23 u.2.1) 24 u.2.2.1) 25 u.2.2.2.1) 38 u.2.2.2.2.1) 39 u.2.2.2.2.2) mf mg)) u)) (va_A (MW cI cJ M mr mi mf mg) sz)) 0 0 (va_A (MW cI cJ M mr mi mf mg) sz) := by
  refine mk_met (y := yX12_readWord) (bytes := cX12_readWord) (maxL := 2) (avs := [.ref M, .int z_w]) (WS := (MW cI cJ M mr mi mf mg)) (Qf := fun A => va_Qi (fun (r : Int32) (u : Int32 × Int32 × Int32 × Int32 × Int32 × Int32) => (0 ≤ u.2.1.toInt) ∧ (u.2.1.toInt ≤ u.1.toInt) ∧ (u.1.toInt ≤ (mi 21).toInt) ∧ (0 ≤ u.2.2.1.toInt) ∧ (u.2.2.1.toInt ≤ 4) ∧ (u.2.2.1.toInt ≤ 4 * u.1.toInt - 4 * u.2.1.toInt) ∧ (AGN u.2.2.1.toInt u.2.2.2.1.toInt u.2.1.toInt u.1.toInt) ∧ ((∀ p : Int, TKR (mf 20) (mi 21).toInt p (mi 23).toInt (mi 22).toInt (mi 24).toInt (mi 25).toInt → RX (mf 20) (mi 21).toInt (wordR (mf 20) (mi 21).toInt (z_w : Int32).toInt p) (r : Int32).toInt u.2.2.2.2.1.toInt u.2.2.2.2.2.toInt u.2.1.toInt u.1.toInt u.2.2.1.toInt u.2.2.2.1.toInt)) ∧ ((r = (-1)) ∨ (r = 0 ∧ (mi 23).toInt + 1 ≤ u.2.1.toInt))) (fun u => QW D cI cJ A ((fun (u : Int32 × Int32 × Int32 × Int32 × Int32 × Int32) => (MW cI cJ M mr (upd (upd (upd (upd (upd (upd mi 22 u.1) 23 u.2.1) 24 u.2.2.1) 25 u.2.2.2.1) 38 u.2.2.2.2.1) 39 u.2.2.2.2.2) mf mg)) u)) A) (by decide) (Nat.le_of_ble_eq_true rfl) ?_
  intro p e s m below meth c A ls E hr hlk hnm hX hw1 hl2
  have hl3 : lv_has ls 2 [(0, .ref M), (1, .int z_w)] := hl2
  refine lv_aload_n (pc := 0) E.1 E.2.1 dX12_readWord_0 rfl (lv_at hl3 0 rfl) ?_
  refine lv_iload_n (pc := 1) E.1 E.2.1 dX12_readWord_1 rfl (lv_at hl3 1 rfl) ?_
  refine cm_i (pc := 2) hw1 (rn_M (As := [.int z_w]) (rest := []) E hw1 (s_isWordT l D cI cJ _ M mr mi mf mg z_w) (gdV q_1694 q_1696 q_59 q_162 q_1697) hdV_X12_isWord ⟨rfl, rfl⟩ ⟨(Nat.le_of_ble_eq_true rfl), (Nat.le_of_ble_eq_true rfl)⟩ ⟨(Nat.le_of_ble_eq_true rfl), (Nat.le_of_ble_eq_true rfl)⟩ 12 rfl rfl rfl rfl hl3.1 rfl (Nat.le_of_ble_eq_true rfl) dX12_readWord_2) (fun r_5 u_4 H1 locs hp hw6 => ?_)
  generalize H1 = H at hw6 ⊢
  have hw7 : WD D A s.heap (MW cI cJ M mr mi mf mg) H locs := hw6
  have hp_8 := hp
  rcases hp_8 with ⟨rfl, ha_9, ha_10⟩ | ⟨rfl, ha_11⟩ | ⟨rfl, ha_12⟩
  · skip
    have ha_9 : (mi 24).toInt = 2 := ha_9
    have ha_10 : (mi 25).toInt = z_w.toInt := ha_10
    refine lv_if_ne (pc := 5) (tgt := 14) E.1 E.2.1 dX12_readWord_5 (by decide) (fun _ => ?_) (fun c_13 => absurd c_13 (mneE (a := 1) (b := 0) (by decide +kernel) (by decide +kernel) (by omega)))
    refine lv_aload_n (pc := 14) E.1 E.2.1 dX12_readWord_14 rfl (lv_at hl3 0 rfl) ?_
    refine cm_v (pc := 15) hw7 (rn_M (As := []) (rest := []) E hw7 (s_readsT l D cI cJ _ M mr mi mf mg (by show 0 ≤ (mi 22).toInt; omega) h2 h3 h7 a_tape (show (∀ j : Nat, j < 154 → (mf 26) j = w0 j) from lf_words)) (gdV q_1666 q_1668 q_52 q_162 q_1669) hdV_X12_reads ⟨rfl, rfl⟩ ⟨(Nat.le_of_ble_eq_true rfl), (Nat.le_of_ble_eq_true rfl)⟩ ⟨(Nat.le_of_ble_eq_true rfl), (Nat.le_of_ble_eq_true rfl)⟩ 12 rfl rfl rfl rfl hl3.1 rfl (Nat.le_of_ble_eq_true rfl) dX12_readWord_15) (fun u_14 H1 locs hp hw16 => ?_)
    obtain ⟨nspot_17, nfrom_18, ntoken_19, nvalue_20⟩ := u_14
    generalize H1 = H at hw16 ⊢
    have hw21 : WD D A s.heap (MW cI cJ M mr (upd (upd (upd (upd mi 22 nspot_17) 23 nfrom_18) 24 ntoken_19) 25 nvalue_20) mf mg) H locs := hw16
    obtain ⟨hp_22, hp_23, hp_24, hp_25, hp_26, hp_27, hp_28, hp_29, hp_30⟩ := hp
    have hp_22 : 0 ≤ nfrom_18.toInt := hp_22
    have hp_23 : nfrom_18.toInt ≤ nspot_17.toInt := hp_23
    have hp_24 : nspot_17.toInt ≤ (mi 21).toInt := hp_24
    have hp_25 : 0 ≤ ntoken_19.toInt := hp_25
    have hp_26 : ntoken_19.toInt ≤ 4 := hp_26
    have hp_27 : ntoken_19.toInt ≤ 4 * nspot_17.toInt - 4 * nfrom_18.toInt := hp_27
    have hp_28 : (mi 22).toInt ≤ nfrom_18.toInt := hp_28
    have hp_29 : AGN ntoken_19.toInt nvalue_20.toInt nfrom_18.toInt nspot_17.toInt := hp_29
    have hp_30 : TKR (mf 20) (mi 21).toInt (mi 22).toInt nfrom_18.toInt nspot_17.toInt ntoken_19.toInt nvalue_20.toInt := hp_30
    refine lv_iconst (pc := 18) (v := 0) E.1 E.2.1 dX12_readWord_18 (by decide +kernel) ?_
    exact em_i (w1 := (fun (u : Int32 × Int32 × Int32 × Int32 × Int32 × Int32) => (MW cI cJ M mr (upd (upd (upd (upd (upd (upd mi 22 u.1) 23 u.2.1) 24 u.2.2.1) 25 u.2.2.2.1) 38 u.2.2.2.2.1) 39 u.2.2.2.2.2) mf mg))) E hr hlk (nspot_17, nfrom_18, ntoken_19, nvalue_20, (mi 38), (mi 39)) hw21 ⟨hp_22, hp_23, hp_24, hp_25, hp_26, hp_27, hp_29, (show (∀ p : Int, TKR (mf 20) (mi 21).toInt p (mi 23).toInt (mi 22).toInt (mi 24).toInt (mi 25).toInt → RX (mf 20) (mi 21).toInt (wordR (mf 20) (mi 21).toInt (z_w : Int32).toInt p) (0 : Int32).toInt (mi 38).toInt (mi 39).toInt nfrom_18.toInt nspot_17.toInt ntoken_19.toInt nvalue_20.toInt) from (fun p hp => RX_word_ok hp (by omega) (by omega) (show (0 : Int32).toInt ≠ -1 from (by decide +kernel)) hp_30)), (Or.inr (⟨rfl, (by show (mi 23).toInt + 1 ≤ nfrom_18.toInt; omega)⟩))⟩ (Nat.le_of_ble_eq_true rfl) (Nat.le_of_ble_eq_true rfl) dX12_readWord_19
  · skip
    have ha_11 : ¬ (mi 24).toInt = 2 := ha_11
    refine lv_if_ne (pc := 5) (tgt := 14) E.1 E.2.1 dX12_readWord_5 (by decide) (fun c_31 => absurd (meqE (a := 0) (b := 0) (by decide +kernel) (by decide +kernel) (by omega)) c_31) (fun _ => ?_)
    refine lv_aload_n (pc := 8) E.1 E.2.1 dX12_readWord_8 rfl (lv_at hl3 0 rfl) ?_
    refine lv_iconst (pc := 9) (v := 1) E.1 E.2.1 dX12_readWord_9 (by decide +kernel) ?_
    refine cm_i (pc := 10) hw7 (rn_M (As := [.int 1]) (rest := []) E hw7 (s_errsT l D cI cJ _ M mr mi mf mg 1) (gdV q_1698 q_1700 q_60 q_162 q_1701) hdV_X12_errs ⟨rfl, rfl⟩ ⟨(Nat.le_of_ble_eq_true rfl), (Nat.le_of_ble_eq_true rfl)⟩ ⟨(Nat.le_of_ble_eq_true rfl), (Nat.le_of_ble_eq_true rfl)⟩ 12 rfl rfl rfl rfl hl3.1 rfl (Nat.le_of_ble_eq_true rfl) dX12_readWord_10) (fun r_33 u_32 H1 locs hp hw34 => ?_)
    obtain ⟨nreadFault_35, nreadPlace_36⟩ := u_32
    generalize H1 = H at hw34 ⊢
    have hw37 : WD D A s.heap (MW cI cJ M mr (upd (upd mi 38 nreadFault_35) 39 nreadPlace_36) mf mg) H locs := hw34
    obtain ⟨hp_38, hp_39, hp_40⟩ := hp
    have hp_38 : nreadFault_35.toInt = (1 : Int32).toInt := hp_38
    rw [show (1 : Int32).toInt = 1 from by decide +kernel] at hp_38
    have hp_39 : nreadPlace_36.toInt = (mi 23).toInt := hp_39
    rcases hp_40 with rfl
    · skip
      exact em_i (w1 := (fun (u : Int32 × Int32 × Int32 × Int32 × Int32 × Int32) => (MW cI cJ M mr (upd (upd (upd (upd (upd (upd mi 22 u.1) 23 u.2.1) 24 u.2.2.1) 25 u.2.2.2.1) 38 u.2.2.2.2.1) 39 u.2.2.2.2.2) mf mg))) E hr hlk ((mi 22), (mi 23), (mi 24), (mi 25), nreadFault_35, nreadPlace_36) hw37 ⟨h0, h1, h2, h4, h5, h6, lf_again, (show (∀ p : Int, TKR (mf 20) (mi 21).toInt p (mi 23).toInt (mi 22).toInt (mi 24).toInt (mi 25).toInt → RX (mf 20) (mi 21).toInt (wordR (mf 20) (mi 21).toInt (z_w : Int32).toInt p) ((-1) : Int32).toInt nreadFault_35.toInt nreadPlace_36.toInt (mi 23).toInt (mi 22).toInt (mi 24).toInt (mi 25).toInt) from (fun p hp => RX_word_no hp (by omega) (by decide +kernel) (by have k1 : (1 : Int32).toInt = 1 := (by decide +kernel); omega) (by omega))), (Or.inl rfl)⟩ (Nat.le_of_ble_eq_true rfl) (Nat.le_of_ble_eq_true rfl) dX12_readWord_13
  · skip
    have ha_12 : ¬ (mi 25).toInt = z_w.toInt := ha_12
    refine lv_if_ne (pc := 5) (tgt := 14) E.1 E.2.1 dX12_readWord_5 (by decide) (fun c_41 => absurd (meqE (a := 0) (b := 0) (by decide +kernel) (by decide +kernel) (by omega)) c_41) (fun _ => ?_)
    refine lv_aload_n (pc := 8) E.1 E.2.1 dX12_readWord_8 rfl (lv_at hl3 0 rfl) ?_
    refine lv_iconst (pc := 9) (v := 1) E.1 E.2.1 dX12_readWord_9 (by decide +kernel) ?_
    refine cm_i (pc := 10) hw7 (rn_M (As := [.int 1]) (rest := []) E hw7 (s_errsT l D cI cJ _ M mr mi mf mg 1) (gdV q_1698 q_1700 q_60 q_162 q_1701) hdV_X12_errs ⟨rfl, rfl⟩ ⟨(Nat.le_of_ble_eq_true rfl), (Nat.le_of_ble_eq_true rfl)⟩ ⟨(Nat.le_of_ble_eq_true rfl), (Nat.le_of_ble_eq_true rfl)⟩ 12 rfl rfl rfl rfl hl3.1 rfl (Nat.le_of_ble_eq_true rfl) dX12_readWord_10) (fun r_43 u_42 H1 locs hp hw44 => ?_)
    obtain ⟨nreadFault_45, nreadPlace_46⟩ := u_42
    generalize H1 = H at hw44 ⊢
    have hw47 : WD D A s.heap (MW cI cJ M mr (upd (upd mi 38 nreadFault_45) 39 nreadPlace_46) mf mg) H locs := hw44
    obtain ⟨hp_48, hp_49, hp_50⟩ := hp
    have hp_48 : nreadFault_45.toInt = (1 : Int32).toInt := hp_48
    rw [show (1 : Int32).toInt = 1 from by decide +kernel] at hp_48
    have hp_49 : nreadPlace_46.toInt = (mi 23).toInt := hp_49
    rcases hp_50 with rfl
    · skip
      exact em_i (w1 := (fun (u : Int32 × Int32 × Int32 × Int32 × Int32 × Int32) => (MW cI cJ M mr (upd (upd (upd (upd (upd (upd mi 22 u.1) 23 u.2.1) 24 u.2.2.1) 25 u.2.2.2.1) 38 u.2.2.2.2.1) 39 u.2.2.2.2.2) mf mg))) E hr hlk ((mi 22), (mi 23), (mi 24), (mi 25), nreadFault_45, nreadPlace_46) hw47 ⟨h0, h1, h2, h4, h5, h6, lf_again, (show (∀ p : Int, TKR (mf 20) (mi 21).toInt p (mi 23).toInt (mi 22).toInt (mi 24).toInt (mi 25).toInt → RX (mf 20) (mi 21).toInt (wordR (mf 20) (mi 21).toInt (z_w : Int32).toInt p) ((-1) : Int32).toInt nreadFault_45.toInt nreadPlace_46.toInt (mi 23).toInt (mi 22).toInt (mi 24).toInt (mi 25).toInt) from (fun p hp => RX_word_no hp (by omega) (by decide +kernel) (by have k1 : (1 : Int32).toInt = 1 := (by decide +kernel); omega) (by omega))), (Or.inl rfl)⟩ (Nat.le_of_ble_eq_true rfl) (Nat.le_of_ble_eq_true rfl) dX12_readWord_13
set_option maxHeartbeats 4000000 in
set_option maxRecDepth 100000 in
theorem s_readMarkT (l : Launch) (D : va_G) (cI cJ : ClassId) (sz M : Nat) (mr : Nat → Nat) (mi : Nat → Int32) (mf : Nat → Nat → Int32) (mg : Nat → Nat → Int64) (z_c : Int32) (h0 : 0 ≤ (mi 23).toInt) (h1 : (mi 23).toInt ≤ (mi 22).toInt) (h2 : (mi 22).toInt ≤ (mi 21).toInt) (h3 : (mi 21).toInt ≤ 400) (h4 : 0 ≤ (mi 24).toInt) (h5 : (mi 24).toInt ≤ 4) (h6 : (mi 24).toInt ≤ 4 * (mi 22).toInt - 4 * (mi 23).toInt) (h7 : ((mf 26) 153).toInt = 32) (a_tape : b255 (mf 20)) (lf_words : (∀ j : Nat, j < 154 → (mf 26) j = w0 j)) (lf_again : AGN ((mi 24).toInt) ((mi 25).toInt) ((mi 23).toInt) ((mi 22).toInt)) : Met l yX12_readMark (Cond.code yX12_readMark cX12_readMark 2 (some .int) :: GW) ({ frames := 4, cells := 0, slots := 0, locals := 105 } : Room) (va_Pc [.ref M, .int z_c] (PW D cI cJ sz (MW cI cJ M mr mi mf mg) xT)) (va_Qi (fun (r : Int32) (u : Int32 × Int32 × Int32 × Int32 × Int32 × Int32) => (0 ≤ u.2.1.toInt) ∧ (u.2.1.toInt ≤ u.1.toInt) ∧ (u.1.toInt ≤ (mi 21).toInt) ∧ (0 ≤ u.2.2.1.toInt) ∧ (u.2.2.1.toInt ≤ 4) ∧ (u.2.2.1.toInt ≤ 4 * u.1.toInt - 4 * u.2.1.toInt) ∧ (AGN u.2.2.1.toInt u.2.2.2.1.toInt u.2.1.toInt u.1.toInt) ∧ ((∀ p : Int, TKR (mf 20) (mi 21).toInt p (mi 23).toInt (mi 22).toInt (mi 24).toInt (mi 25).toInt → RX (mf 20) (mi 21).toInt (markR (mf 20) (mi 21).toInt (z_c : Int32).toInt p) (r : Int32).toInt u.2.2.2.2.1.toInt u.2.2.2.2.2.toInt u.2.1.toInt u.1.toInt u.2.2.1.toInt u.2.2.2.1.toInt)) ∧ ((r = (-1)) ∨ (r = 0 ∧ (mi 23).toInt + 1 ≤ u.2.1.toInt))) (fun u => QW D cI cJ (va_A (MW cI cJ M mr mi mf mg) sz) ((fun (u : Int32 × Int32 × Int32 × Int32 × Int32 × Int32) => (MW cI cJ M mr (upd (upd (upd (upd (upd (upd mi 22 u.1) 23 u.2.1) 24 u.2.2.1) 25 u.2.2.2.1) 38 u.2.2.2.2.1) 39 u.2.2.2.2.2) mf mg)) u)) (va_A (MW cI cJ M mr mi mf mg) sz)) 0 0 (va_A (MW cI cJ M mr mi mf mg) sz) := by
  refine mk_met (y := yX12_readMark) (bytes := cX12_readMark) (maxL := 2) (avs := [.ref M, .int z_c]) (WS := (MW cI cJ M mr mi mf mg)) (Qf := fun A => va_Qi (fun (r : Int32) (u : Int32 × Int32 × Int32 × Int32 × Int32 × Int32) => (0 ≤ u.2.1.toInt) ∧ (u.2.1.toInt ≤ u.1.toInt) ∧ (u.1.toInt ≤ (mi 21).toInt) ∧ (0 ≤ u.2.2.1.toInt) ∧ (u.2.2.1.toInt ≤ 4) ∧ (u.2.2.1.toInt ≤ 4 * u.1.toInt - 4 * u.2.1.toInt) ∧ (AGN u.2.2.1.toInt u.2.2.2.1.toInt u.2.1.toInt u.1.toInt) ∧ ((∀ p : Int, TKR (mf 20) (mi 21).toInt p (mi 23).toInt (mi 22).toInt (mi 24).toInt (mi 25).toInt → RX (mf 20) (mi 21).toInt (markR (mf 20) (mi 21).toInt (z_c : Int32).toInt p) (r : Int32).toInt u.2.2.2.2.1.toInt u.2.2.2.2.2.toInt u.2.1.toInt u.1.toInt u.2.2.1.toInt u.2.2.2.1.toInt)) ∧ ((r = (-1)) ∨ (r = 0 ∧ (mi 23).toInt + 1 ≤ u.2.1.toInt))) (fun u => QW D cI cJ A ((fun (u : Int32 × Int32 × Int32 × Int32 × Int32 × Int32) => (MW cI cJ M mr (upd (upd (upd (upd (upd (upd mi 22 u.1) 23 u.2.1) 24 u.2.2.1) 25 u.2.2.2.1) 38 u.2.2.2.2.1) 39 u.2.2.2.2.2) mf mg)) u)) A) (by decide) (Nat.le_of_ble_eq_true rfl) ?_
  intro p e s m below meth c A ls E hr hlk hnm hX hw1 hl2
  have hl3 : lv_has ls 2 [(0, .ref M), (1, .int z_c)] := hl2
  refine lv_aload_n (pc := 0) E.1 E.2.1 dX12_readMark_0 rfl (lv_at hl3 0 rfl) ?_
  refine lv_iload_n (pc := 1) E.1 E.2.1 dX12_readMark_1 rfl (lv_at hl3 1 rfl) ?_
  refine cm_i (pc := 2) hw1 (rn_M (As := [.int z_c]) (rest := []) E hw1 (s_isSignT l D cI cJ _ M mr mi mf mg z_c) (gdV q_1718 q_1720 q_65 q_162 q_1721) hdV_X12_isSign ⟨rfl, rfl⟩ ⟨(Nat.le_of_ble_eq_true rfl), (Nat.le_of_ble_eq_true rfl)⟩ ⟨(Nat.le_of_ble_eq_true rfl), (Nat.le_of_ble_eq_true rfl)⟩ 12 rfl rfl rfl rfl hl3.1 rfl (Nat.le_of_ble_eq_true rfl) dX12_readMark_2) (fun r_5 u_4 H1 locs hp hw6 => ?_)
  generalize H1 = H at hw6 ⊢
  have hw7 : WD D A s.heap (MW cI cJ M mr mi mf mg) H locs := hw6
  have hp_8 := hp
  rcases hp_8 with ⟨rfl, ha_9, ha_10⟩ | ⟨rfl, ha_11⟩ | ⟨rfl, ha_12⟩
  · skip
    have ha_9 : (mi 24).toInt = 4 := ha_9
    have ha_10 : (mi 25).toInt = z_c.toInt := ha_10
    refine lv_if_ne (pc := 5) (tgt := 14) E.1 E.2.1 dX12_readMark_5 (by decide) (fun _ => ?_) (fun c_13 => absurd c_13 (mneE (a := 1) (b := 0) (by decide +kernel) (by decide +kernel) (by omega)))
    refine lv_aload_n (pc := 14) E.1 E.2.1 dX12_readMark_14 rfl (lv_at hl3 0 rfl) ?_
    refine cm_v (pc := 15) hw7 (rn_M (As := []) (rest := []) E hw7 (s_readsT l D cI cJ _ M mr mi mf mg (by show 0 ≤ (mi 22).toInt; omega) h2 h3 h7 a_tape (show (∀ j : Nat, j < 154 → (mf 26) j = w0 j) from lf_words)) (gdV q_1666 q_1668 q_52 q_162 q_1669) hdV_X12_reads ⟨rfl, rfl⟩ ⟨(Nat.le_of_ble_eq_true rfl), (Nat.le_of_ble_eq_true rfl)⟩ ⟨(Nat.le_of_ble_eq_true rfl), (Nat.le_of_ble_eq_true rfl)⟩ 12 rfl rfl rfl rfl hl3.1 rfl (Nat.le_of_ble_eq_true rfl) dX12_readMark_15) (fun u_14 H1 locs hp hw16 => ?_)
    obtain ⟨nspot_17, nfrom_18, ntoken_19, nvalue_20⟩ := u_14
    generalize H1 = H at hw16 ⊢
    have hw21 : WD D A s.heap (MW cI cJ M mr (upd (upd (upd (upd mi 22 nspot_17) 23 nfrom_18) 24 ntoken_19) 25 nvalue_20) mf mg) H locs := hw16
    obtain ⟨hp_22, hp_23, hp_24, hp_25, hp_26, hp_27, hp_28, hp_29, hp_30⟩ := hp
    have hp_22 : 0 ≤ nfrom_18.toInt := hp_22
    have hp_23 : nfrom_18.toInt ≤ nspot_17.toInt := hp_23
    have hp_24 : nspot_17.toInt ≤ (mi 21).toInt := hp_24
    have hp_25 : 0 ≤ ntoken_19.toInt := hp_25
    have hp_26 : ntoken_19.toInt ≤ 4 := hp_26
    have hp_27 : ntoken_19.toInt ≤ 4 * nspot_17.toInt - 4 * nfrom_18.toInt := hp_27
    have hp_28 : (mi 22).toInt ≤ nfrom_18.toInt := hp_28
    have hp_29 : AGN ntoken_19.toInt nvalue_20.toInt nfrom_18.toInt nspot_17.toInt := hp_29
    have hp_30 : TKR (mf 20) (mi 21).toInt (mi 22).toInt nfrom_18.toInt nspot_17.toInt ntoken_19.toInt nvalue_20.toInt := hp_30
    refine lv_iconst (pc := 18) (v := 0) E.1 E.2.1 dX12_readMark_18 (by decide +kernel) ?_
    exact em_i (w1 := (fun (u : Int32 × Int32 × Int32 × Int32 × Int32 × Int32) => (MW cI cJ M mr (upd (upd (upd (upd (upd (upd mi 22 u.1) 23 u.2.1) 24 u.2.2.1) 25 u.2.2.2.1) 38 u.2.2.2.2.1) 39 u.2.2.2.2.2) mf mg))) E hr hlk (nspot_17, nfrom_18, ntoken_19, nvalue_20, (mi 38), (mi 39)) hw21 ⟨hp_22, hp_23, hp_24, hp_25, hp_26, hp_27, hp_29, (show (∀ p : Int, TKR (mf 20) (mi 21).toInt p (mi 23).toInt (mi 22).toInt (mi 24).toInt (mi 25).toInt → RX (mf 20) (mi 21).toInt (markR (mf 20) (mi 21).toInt (z_c : Int32).toInt p) (0 : Int32).toInt (mi 38).toInt (mi 39).toInt nfrom_18.toInt nspot_17.toInt ntoken_19.toInt nvalue_20.toInt) from (fun p hp => RX_mark_ok hp (by omega) (by omega) (show (0 : Int32).toInt ≠ -1 from (by decide +kernel)) hp_30)), (Or.inr (⟨rfl, (by show (mi 23).toInt + 1 ≤ nfrom_18.toInt; omega)⟩))⟩ (Nat.le_of_ble_eq_true rfl) (Nat.le_of_ble_eq_true rfl) dX12_readMark_19
  · skip
    have ha_11 : ¬ (mi 24).toInt = 4 := ha_11
    refine lv_if_ne (pc := 5) (tgt := 14) E.1 E.2.1 dX12_readMark_5 (by decide) (fun c_31 => absurd (meqE (a := 0) (b := 0) (by decide +kernel) (by decide +kernel) (by omega)) c_31) (fun _ => ?_)
    refine lv_aload_n (pc := 8) E.1 E.2.1 dX12_readMark_8 rfl (lv_at hl3 0 rfl) ?_
    refine lv_iconst (pc := 9) (v := 1) E.1 E.2.1 dX12_readMark_9 (by decide +kernel) ?_
    refine cm_i (pc := 10) hw7 (rn_M (As := [.int 1]) (rest := []) E hw7 (s_errsT l D cI cJ _ M mr mi mf mg 1) (gdV q_1698 q_1700 q_60 q_162 q_1701) hdV_X12_errs ⟨rfl, rfl⟩ ⟨(Nat.le_of_ble_eq_true rfl), (Nat.le_of_ble_eq_true rfl)⟩ ⟨(Nat.le_of_ble_eq_true rfl), (Nat.le_of_ble_eq_true rfl)⟩ 12 rfl rfl rfl rfl hl3.1 rfl (Nat.le_of_ble_eq_true rfl) dX12_readMark_10) (fun r_33 u_32 H1 locs hp hw34 => ?_)
    obtain ⟨nreadFault_35, nreadPlace_36⟩ := u_32
    generalize H1 = H at hw34 ⊢
    have hw37 : WD D A s.heap (MW cI cJ M mr (upd (upd mi 38 nreadFault_35) 39 nreadPlace_36) mf mg) H locs := hw34
    obtain ⟨hp_38, hp_39, hp_40⟩ := hp
    have hp_38 : nreadFault_35.toInt = (1 : Int32).toInt := hp_38
    rw [show (1 : Int32).toInt = 1 from by decide +kernel] at hp_38
    have hp_39 : nreadPlace_36.toInt = (mi 23).toInt := hp_39
    rcases hp_40 with rfl
    · skip
      exact em_i (w1 := (fun (u : Int32 × Int32 × Int32 × Int32 × Int32 × Int32) => (MW cI cJ M mr (upd (upd (upd (upd (upd (upd mi 22 u.1) 23 u.2.1) 24 u.2.2.1) 25 u.2.2.2.1) 38 u.2.2.2.2.1) 39 u.2.2.2.2.2) mf mg))) E hr hlk ((mi 22), (mi 23), (mi 24), (mi 25), nreadFault_35, nreadPlace_36) hw37 ⟨h0, h1, h2, h4, h5, h6, lf_again, (show (∀ p : Int, TKR (mf 20) (mi 21).toInt p (mi 23).toInt (mi 22).toInt (mi 24).toInt (mi 25).toInt → RX (mf 20) (mi 21).toInt (markR (mf 20) (mi 21).toInt (z_c : Int32).toInt p) ((-1) : Int32).toInt nreadFault_35.toInt nreadPlace_36.toInt (mi 23).toInt (mi 22).toInt (mi 24).toInt (mi 25).toInt) from (fun p hp => RX_mark_no hp (by omega) (by decide +kernel) (by have k1 : (1 : Int32).toInt = 1 := (by decide +kernel); omega) (by omega))), (Or.inl rfl)⟩ (Nat.le_of_ble_eq_true rfl) (Nat.le_of_ble_eq_true rfl) dX12_readMark_13
  · skip
    have ha_12 : ¬ (mi 25).toInt = z_c.toInt := ha_12
    refine lv_if_ne (pc := 5) (tgt := 14) E.1 E.2.1 dX12_readMark_5 (by decide) (fun c_41 => absurd (meqE (a := 0) (b := 0) (by decide +kernel) (by decide +kernel) (by omega)) c_41) (fun _ => ?_)
    refine lv_aload_n (pc := 8) E.1 E.2.1 dX12_readMark_8 rfl (lv_at hl3 0 rfl) ?_
    refine lv_iconst (pc := 9) (v := 1) E.1 E.2.1 dX12_readMark_9 (by decide +kernel) ?_
    refine cm_i (pc := 10) hw7 (rn_M (As := [.int 1]) (rest := []) E hw7 (s_errsT l D cI cJ _ M mr mi mf mg 1) (gdV q_1698 q_1700 q_60 q_162 q_1701) hdV_X12_errs ⟨rfl, rfl⟩ ⟨(Nat.le_of_ble_eq_true rfl), (Nat.le_of_ble_eq_true rfl)⟩ ⟨(Nat.le_of_ble_eq_true rfl), (Nat.le_of_ble_eq_true rfl)⟩ 12 rfl rfl rfl rfl hl3.1 rfl (Nat.le_of_ble_eq_true rfl) dX12_readMark_10) (fun r_43 u_42 H1 locs hp hw44 => ?_)
    obtain ⟨nreadFault_45, nreadPlace_46⟩ := u_42
    generalize H1 = H at hw44 ⊢
    have hw47 : WD D A s.heap (MW cI cJ M mr (upd (upd mi 38 nreadFault_45) 39 nreadPlace_46) mf mg) H locs := hw44
    obtain ⟨hp_48, hp_49, hp_50⟩ := hp
    have hp_48 : nreadFault_45.toInt = (1 : Int32).toInt := hp_48
    rw [show (1 : Int32).toInt = 1 from by decide +kernel] at hp_48
    have hp_49 : nreadPlace_46.toInt = (mi 23).toInt := hp_49
    rcases hp_50 with rfl
    · skip
      exact em_i (w1 := (fun (u : Int32 × Int32 × Int32 × Int32 × Int32 × Int32) => (MW cI cJ M mr (upd (upd (upd (upd (upd (upd mi 22 u.1) 23 u.2.1) 24 u.2.2.1) 25 u.2.2.2.1) 38 u.2.2.2.2.1) 39 u.2.2.2.2.2) mf mg))) E hr hlk ((mi 22), (mi 23), (mi 24), (mi 25), nreadFault_45, nreadPlace_46) hw47 ⟨h0, h1, h2, h4, h5, h6, lf_again, (show (∀ p : Int, TKR (mf 20) (mi 21).toInt p (mi 23).toInt (mi 22).toInt (mi 24).toInt (mi 25).toInt → RX (mf 20) (mi 21).toInt (markR (mf 20) (mi 21).toInt (z_c : Int32).toInt p) ((-1) : Int32).toInt nreadFault_45.toInt nreadPlace_46.toInt (mi 23).toInt (mi 22).toInt (mi 24).toInt (mi 25).toInt) from (fun p hp => RX_mark_no hp (by omega) (by decide +kernel) (by have k1 : (1 : Int32).toInt = 1 := (by decide +kernel); omega) (by omega))), (Or.inl rfl)⟩ (Nat.le_of_ble_eq_true rfl) (Nat.le_of_ble_eq_true rfl) dX12_readMark_13
set_option maxHeartbeats 4000000 in
set_option maxRecDepth 100000 in
theorem s_readNumberT (l : Launch) (D : va_G) (cI cJ : ClassId) (sz M : Nat) (mr : Nat → Nat) (mi : Nat → Int32) (mf : Nat → Nat → Int32) (mg : Nat → Nat → Int64) (z_low : Int32) (z_high : Int32) (h0 : 0 ≤ (mi 23).toInt) (h1 : (mi 23).toInt ≤ (mi 22).toInt) (h2 : (mi 22).toInt ≤ (mi 21).toInt) (h3 : (mi 21).toInt ≤ 400) (h4 : 0 ≤ (mi 24).toInt) (h5 : (mi 24).toInt ≤ 4) (h6 : (mi 24).toInt ≤ 4 * (mi 22).toInt - 4 * (mi 23).toInt) (h7 : ((mf 26) 153).toInt = 32) (a_tape : b255 (mf 20)) (lf_words : (∀ j : Nat, j < 154 → (mf 26) j = w0 j)) (lf_again : AGN ((mi 24).toInt) ((mi 25).toInt) ((mi 23).toInt) ((mi 22).toInt)) : Met l yX12_readNumber (Cond.code yX12_readNumber cX12_readNumber 4 (some .int) :: GW) ({ frames := 4, cells := 0, slots := 0, locals := 105 } : Room) (va_Pc [.ref M, .int z_low, .int z_high] (PW D cI cJ sz (MW cI cJ M mr mi mf mg) xT)) (va_Qi (fun (r : Int32) (u : Int32 × Int32 × Int32 × Int32 × Int32 × Int32) => (0 ≤ u.2.1.toInt) ∧ (u.2.1.toInt ≤ u.1.toInt) ∧ (u.1.toInt ≤ (mi 21).toInt) ∧ (0 ≤ u.2.2.1.toInt) ∧ (u.2.2.1.toInt ≤ 4) ∧ (u.2.2.1.toInt ≤ 4 * u.1.toInt - 4 * u.2.1.toInt) ∧ (AGN u.2.2.1.toInt u.2.2.2.1.toInt u.2.1.toInt u.1.toInt) ∧ ((∀ p : Int, TKR (mf 20) (mi 21).toInt p (mi 23).toInt (mi 22).toInt (mi 24).toInt (mi 25).toInt → RN (mf 20) (mi 21).toInt (numR (mf 20) (mi 21).toInt (z_low : Int32).toInt (z_high : Int32).toInt p) (r : Int32).toInt u.2.2.2.2.1.toInt u.2.2.2.2.2.toInt u.2.1.toInt u.1.toInt u.2.2.1.toInt u.2.2.2.1.toInt)) ∧ ((r = (-1)) ∨ (z_low.toInt ≤ r.toInt ∧ r.toInt ≤ z_high.toInt ∧ (mi 23).toInt + 1 ≤ u.2.1.toInt))) (fun u => QW D cI cJ (va_A (MW cI cJ M mr mi mf mg) sz) ((fun (u : Int32 × Int32 × Int32 × Int32 × Int32 × Int32) => (MW cI cJ M mr (upd (upd (upd (upd (upd (upd mi 22 u.1) 23 u.2.1) 24 u.2.2.1) 25 u.2.2.2.1) 38 u.2.2.2.2.1) 39 u.2.2.2.2.2) mf mg)) u)) (va_A (MW cI cJ M mr mi mf mg) sz)) 0 0 (va_A (MW cI cJ M mr mi mf mg) sz) := by
  refine mk_met (y := yX12_readNumber) (bytes := cX12_readNumber) (maxL := 4) (avs := [.ref M, .int z_low, .int z_high]) (WS := (MW cI cJ M mr mi mf mg)) (Qf := fun A => va_Qi (fun (r : Int32) (u : Int32 × Int32 × Int32 × Int32 × Int32 × Int32) => (0 ≤ u.2.1.toInt) ∧ (u.2.1.toInt ≤ u.1.toInt) ∧ (u.1.toInt ≤ (mi 21).toInt) ∧ (0 ≤ u.2.2.1.toInt) ∧ (u.2.2.1.toInt ≤ 4) ∧ (u.2.2.1.toInt ≤ 4 * u.1.toInt - 4 * u.2.1.toInt) ∧ (AGN u.2.2.1.toInt u.2.2.2.1.toInt u.2.1.toInt u.1.toInt) ∧ ((∀ p : Int, TKR (mf 20) (mi 21).toInt p (mi 23).toInt (mi 22).toInt (mi 24).toInt (mi 25).toInt → RN (mf 20) (mi 21).toInt (numR (mf 20) (mi 21).toInt (z_low : Int32).toInt (z_high : Int32).toInt p) (r : Int32).toInt u.2.2.2.2.1.toInt u.2.2.2.2.2.toInt u.2.1.toInt u.1.toInt u.2.2.1.toInt u.2.2.2.1.toInt)) ∧ ((r = (-1)) ∨ (z_low.toInt ≤ r.toInt ∧ r.toInt ≤ z_high.toInt ∧ (mi 23).toInt + 1 ≤ u.2.1.toInt))) (fun u => QW D cI cJ A ((fun (u : Int32 × Int32 × Int32 × Int32 × Int32 × Int32) => (MW cI cJ M mr (upd (upd (upd (upd (upd (upd mi 22 u.1) 23 u.2.1) 24 u.2.2.1) 25 u.2.2.2.1) 38 u.2.2.2.2.1) 39 u.2.2.2.2.2) mf mg)) u)) A) (by decide) (Nat.le_of_ble_eq_true rfl) ?_
  intro p e s m below meth c A ls E hr hlk hnm hX hw1 hl2
  have hl3 : lv_has ls 4 [(0, .ref M), (1, .int z_low), (2, .int z_high)] := hl2
  refine lv_aload_n (pc := 0) E.1 E.2.1 dX12_readNumber_0 rfl (lv_at hl3 0 rfl) ?_
  refine x_get (pc := 1) (T := TX12) (N := 70) (ci := 12) (v := .int (mi 24)) E hw1 inX12 0 24 q_1423 rfl rfl (by decide) rfl rfl dX12_readNumber_1 ?_
  refine lv_iconst (pc := 4) (v := 3) E.1 E.2.1 dX12_readNumber_4 (by decide +kernel) ?_
  refine lv_icmp_eq (pc := 5) (tgt := 14) E.1 E.2.1 dX12_readNumber_5 (by decide) (fun c_4 => ?_) (fun c_4 => ?_)
  · skip
    have hc_4 := eqE (a := (mi 24).toInt) (b := 3) rfl (by decide +kernel) c_4
    refine lv_aload_n (pc := 14) E.1 E.2.1 dX12_readNumber_14 rfl (lv_at hl3 0 rfl) ?_
    refine lv_aload_n (pc := 15) E.1 E.2.1 dX12_readNumber_15 rfl (lv_at hl3 0 rfl) ?_
    refine x_get (pc := 16) (T := TX12) (N := 70) (ci := 12) (v := .int (mi 25)) E hw1 inX12 0 25 q_1424 rfl rfl (by decide) rfl rfl dX12_readNumber_16 ?_
    refine lv_iload_n (pc := 19) E.1 E.2.1 dX12_readNumber_19 rfl (lv_at hl3 1 rfl) ?_
    refine lv_iload_n (pc := 20) E.1 E.2.1 dX12_readNumber_20 rfl (lv_at hl3 2 rfl) ?_
    refine cm_i (pc := 21) hw1 (rn_M (As := [.int (mi 25), .int z_low, .int z_high]) (rest := []) E hw1 (s_isIn l D cI cJ _ M mr mi mf mg (mi 25) z_low z_high) (gdV q_1622 q_1624 q_46 q_162 q_1625) hdV_X12_isIn ⟨rfl, rfl⟩ ⟨(Nat.le_of_ble_eq_true rfl), (Nat.le_of_ble_eq_true rfl)⟩ ⟨(Nat.le_of_ble_eq_true rfl), (Nat.le_of_ble_eq_true rfl)⟩ 12 rfl rfl rfl rfl hl3.1 rfl (Nat.le_of_ble_eq_true rfl) dX12_readNumber_21) (fun r_6 u_5 H1 locs hp hw7 => ?_)
    generalize H1 = H at hw7 ⊢
    have hw8 : WD D A s.heap (MW cI cJ M mr mi mf mg) H locs := hw7
    have hp_9 := hp
    rcases hp_9 with ⟨rfl, ha_10⟩ | ⟨rfl, ha_11⟩ | ⟨rfl, ha_12, ha_13⟩
    · skip
      have ha_10 : (mi 25).toInt < z_low.toInt := ha_10
      refine lv_if_ne (pc := 24) (tgt := 33) E.1 E.2.1 dX12_readNumber_24 (by decide) (fun c_14 => absurd (meqE (a := 0) (b := 0) (by decide +kernel) (by decide +kernel) (by omega)) c_14) (fun _ => ?_)
      refine lv_aload_n (pc := 27) E.1 E.2.1 dX12_readNumber_27 rfl (lv_at hl3 0 rfl) ?_
      refine lv_iconst (pc := 28) (v := 2) E.1 E.2.1 dX12_readNumber_28 (by decide +kernel) ?_
      refine cm_i (pc := 29) hw8 (rn_M (As := [.int 2]) (rest := []) E hw8 (s_errsT l D cI cJ _ M mr mi mf mg 2) (gdV q_1698 q_1700 q_60 q_162 q_1701) hdV_X12_errs ⟨rfl, rfl⟩ ⟨(Nat.le_of_ble_eq_true rfl), (Nat.le_of_ble_eq_true rfl)⟩ ⟨(Nat.le_of_ble_eq_true rfl), (Nat.le_of_ble_eq_true rfl)⟩ 12 rfl rfl rfl rfl hl3.1 rfl (Nat.le_of_ble_eq_true rfl) dX12_readNumber_29) (fun r_16 u_15 H1 locs hp hw17 => ?_)
      obtain ⟨nreadFault_18, nreadPlace_19⟩ := u_15
      generalize H1 = H at hw17 ⊢
      have hw20 : WD D A s.heap (MW cI cJ M mr (upd (upd mi 38 nreadFault_18) 39 nreadPlace_19) mf mg) H locs := hw17
      obtain ⟨hp_21, hp_22, hp_23⟩ := hp
      have hp_21 : nreadFault_18.toInt = (2 : Int32).toInt := hp_21
      rw [show (2 : Int32).toInt = 2 from by decide +kernel] at hp_21
      have hp_22 : nreadPlace_19.toInt = (mi 23).toInt := hp_22
      rcases hp_23 with rfl
      · skip
        exact em_i (w1 := (fun (u : Int32 × Int32 × Int32 × Int32 × Int32 × Int32) => (MW cI cJ M mr (upd (upd (upd (upd (upd (upd mi 22 u.1) 23 u.2.1) 24 u.2.2.1) 25 u.2.2.2.1) 38 u.2.2.2.2.1) 39 u.2.2.2.2.2) mf mg))) E hr hlk ((mi 22), (mi 23), (mi 24), (mi 25), nreadFault_18, nreadPlace_19) hw20 ⟨h0, h1, h2, h4, h5, h6, lf_again, (show (∀ p : Int, TKR (mf 20) (mi 21).toInt p (mi 23).toInt (mi 22).toInt (mi 24).toInt (mi 25).toInt → RN (mf 20) (mi 21).toInt (numR (mf 20) (mi 21).toInt (z_low : Int32).toInt (z_high : Int32).toInt p) ((-1) : Int32).toInt nreadFault_18.toInt nreadPlace_19.toInt (mi 23).toInt (mi 22).toInt (mi 24).toInt (mi 25).toInt) from (fun p hp => RN_bad hp (by omega) (by omega) (by decide +kernel) (by have k2 : (2 : Int32).toInt = 2 := (by decide +kernel); omega) (by omega))), (Or.inl rfl)⟩ (Nat.le_of_ble_eq_true rfl) (Nat.le_of_ble_eq_true rfl) dX12_readNumber_32
    · skip
      have ha_11 : z_high.toInt < (mi 25).toInt := ha_11
      refine lv_if_ne (pc := 24) (tgt := 33) E.1 E.2.1 dX12_readNumber_24 (by decide) (fun c_24 => absurd (meqE (a := 0) (b := 0) (by decide +kernel) (by decide +kernel) (by omega)) c_24) (fun _ => ?_)
      refine lv_aload_n (pc := 27) E.1 E.2.1 dX12_readNumber_27 rfl (lv_at hl3 0 rfl) ?_
      refine lv_iconst (pc := 28) (v := 2) E.1 E.2.1 dX12_readNumber_28 (by decide +kernel) ?_
      refine cm_i (pc := 29) hw8 (rn_M (As := [.int 2]) (rest := []) E hw8 (s_errsT l D cI cJ _ M mr mi mf mg 2) (gdV q_1698 q_1700 q_60 q_162 q_1701) hdV_X12_errs ⟨rfl, rfl⟩ ⟨(Nat.le_of_ble_eq_true rfl), (Nat.le_of_ble_eq_true rfl)⟩ ⟨(Nat.le_of_ble_eq_true rfl), (Nat.le_of_ble_eq_true rfl)⟩ 12 rfl rfl rfl rfl hl3.1 rfl (Nat.le_of_ble_eq_true rfl) dX12_readNumber_29) (fun r_26 u_25 H1 locs hp hw27 => ?_)
      obtain ⟨nreadFault_28, nreadPlace_29⟩ := u_25
      generalize H1 = H at hw27 ⊢
      have hw30 : WD D A s.heap (MW cI cJ M mr (upd (upd mi 38 nreadFault_28) 39 nreadPlace_29) mf mg) H locs := hw27
      obtain ⟨hp_31, hp_32, hp_33⟩ := hp
      have hp_31 : nreadFault_28.toInt = (2 : Int32).toInt := hp_31
      rw [show (2 : Int32).toInt = 2 from by decide +kernel] at hp_31
      have hp_32 : nreadPlace_29.toInt = (mi 23).toInt := hp_32
      rcases hp_33 with rfl
      · skip
        exact em_i (w1 := (fun (u : Int32 × Int32 × Int32 × Int32 × Int32 × Int32) => (MW cI cJ M mr (upd (upd (upd (upd (upd (upd mi 22 u.1) 23 u.2.1) 24 u.2.2.1) 25 u.2.2.2.1) 38 u.2.2.2.2.1) 39 u.2.2.2.2.2) mf mg))) E hr hlk ((mi 22), (mi 23), (mi 24), (mi 25), nreadFault_28, nreadPlace_29) hw30 ⟨h0, h1, h2, h4, h5, h6, lf_again, (show (∀ p : Int, TKR (mf 20) (mi 21).toInt p (mi 23).toInt (mi 22).toInt (mi 24).toInt (mi 25).toInt → RN (mf 20) (mi 21).toInt (numR (mf 20) (mi 21).toInt (z_low : Int32).toInt (z_high : Int32).toInt p) ((-1) : Int32).toInt nreadFault_28.toInt nreadPlace_29.toInt (mi 23).toInt (mi 22).toInt (mi 24).toInt (mi 25).toInt) from (fun p hp => RN_bad hp (by omega) (by omega) (by decide +kernel) (by have k2 : (2 : Int32).toInt = 2 := (by decide +kernel); omega) (by omega))), (Or.inl rfl)⟩ (Nat.le_of_ble_eq_true rfl) (Nat.le_of_ble_eq_true rfl) dX12_readNumber_32
    · skip
      have ha_12 : z_low.toInt ≤ (mi 25).toInt := ha_12
      have ha_13 : (mi 25).toInt ≤ z_high.toInt := ha_13
      refine lv_if_ne (pc := 24) (tgt := 33) E.1 E.2.1 dX12_readNumber_24 (by decide) (fun _ => ?_) (fun c_34 => absurd c_34 (mneE (a := 1) (b := 0) (by decide +kernel) (by decide +kernel) (by omega)))
      refine lv_aload_n (pc := 33) E.1 E.2.1 dX12_readNumber_33 rfl (lv_at hl3 0 rfl) ?_
      refine x_get (pc := 34) (T := TX12) (N := 70) (ci := 12) (v := .int (mi 25)) E hw8 inX12 0 25 q_1424 rfl rfl (by decide) rfl rfl dX12_readNumber_34 ?_
      refine lv_istore_n (pc := 37) (lv' := [(3, .int (mi 25)), (0, .ref M), (1, .int z_low), (2, .int z_high)]) E.1 E.2.1 dX12_readNumber_37 rfl hl3 (by decide) rfl (fun ls hl35 => ?_)
      refine lv_aload_n (pc := 38) E.1 E.2.1 dX12_readNumber_38 rfl (lv_at hl35 1 rfl) ?_
      refine cm_v (pc := 39) hw8 (rn_M (As := []) (rest := []) E hw8 (s_readsT l D cI cJ _ M mr mi mf mg (by show 0 ≤ (mi 22).toInt; omega) h2 h3 h7 a_tape (show (∀ j : Nat, j < 154 → (mf 26) j = w0 j) from lf_words)) (gdV q_1666 q_1668 q_52 q_162 q_1669) hdV_X12_reads ⟨rfl, rfl⟩ ⟨(Nat.le_of_ble_eq_true rfl), (Nat.le_of_ble_eq_true rfl)⟩ ⟨(Nat.le_of_ble_eq_true rfl), (Nat.le_of_ble_eq_true rfl)⟩ 12 rfl rfl rfl rfl hl35.1 rfl (Nat.le_of_ble_eq_true rfl) dX12_readNumber_39) (fun u_36 H1 locs hp hw38 => ?_)
      obtain ⟨nspot_39, nfrom_40, ntoken_41, nvalue_42⟩ := u_36
      generalize H1 = H at hw38 ⊢
      have hw43 : WD D A s.heap (MW cI cJ M mr (upd (upd (upd (upd mi 22 nspot_39) 23 nfrom_40) 24 ntoken_41) 25 nvalue_42) mf mg) H locs := hw38
      obtain ⟨hp_44, hp_45, hp_46, hp_47, hp_48, hp_49, hp_50, hp_51, hp_52⟩ := hp
      have hp_44 : 0 ≤ nfrom_40.toInt := hp_44
      have hp_45 : nfrom_40.toInt ≤ nspot_39.toInt := hp_45
      have hp_46 : nspot_39.toInt ≤ (mi 21).toInt := hp_46
      have hp_47 : 0 ≤ ntoken_41.toInt := hp_47
      have hp_48 : ntoken_41.toInt ≤ 4 := hp_48
      have hp_49 : ntoken_41.toInt ≤ 4 * nspot_39.toInt - 4 * nfrom_40.toInt := hp_49
      have hp_50 : (mi 22).toInt ≤ nfrom_40.toInt := hp_50
      have hp_51 : AGN ntoken_41.toInt nvalue_42.toInt nfrom_40.toInt nspot_39.toInt := hp_51
      have hp_52 : TKR (mf 20) (mi 21).toInt (mi 22).toInt nfrom_40.toInt nspot_39.toInt ntoken_41.toInt nvalue_42.toInt := hp_52
      refine lv_iload_n (pc := 42) E.1 E.2.1 dX12_readNumber_42 rfl (lv_at hl35 0 rfl) ?_
      exact em_i (w1 := (fun (u : Int32 × Int32 × Int32 × Int32 × Int32 × Int32) => (MW cI cJ M mr (upd (upd (upd (upd (upd (upd mi 22 u.1) 23 u.2.1) 24 u.2.2.1) 25 u.2.2.2.1) 38 u.2.2.2.2.1) 39 u.2.2.2.2.2) mf mg))) E hr hlk (nspot_39, nfrom_40, ntoken_41, nvalue_42, (mi 38), (mi 39)) hw43 ⟨hp_44, hp_45, hp_46, hp_47, hp_48, hp_49, hp_51, (show (∀ p : Int, TKR (mf 20) (mi 21).toInt p (mi 23).toInt (mi 22).toInt (mi 24).toInt (mi 25).toInt → RN (mf 20) (mi 21).toInt (numR (mf 20) (mi 21).toInt (z_low : Int32).toInt (z_high : Int32).toInt p) ((mi 25) : Int32).toInt (mi 38).toInt (mi 39).toInt nfrom_40.toInt nspot_39.toInt ntoken_41.toInt nvalue_42.toInt) from (fun p hp => RN_ok hp (by omega) ⟨by omega, by omega⟩ rfl hp_52)), (Or.inr (⟨(by show z_low.toInt ≤ (mi 25).toInt; omega), (by show (mi 25).toInt ≤ z_high.toInt; omega), (by show (mi 23).toInt + 1 ≤ nfrom_40.toInt; omega)⟩))⟩ (Nat.le_of_ble_eq_true rfl) (Nat.le_of_ble_eq_true rfl) dX12_readNumber_43
  · skip
    have hc_4 := neE (a := (mi 24).toInt) (b := 3) rfl (by decide +kernel) c_4
    refine lv_aload_n (pc := 8) E.1 E.2.1 dX12_readNumber_8 rfl (lv_at hl3 0 rfl) ?_
    refine lv_iconst (pc := 9) (v := 1) E.1 E.2.1 dX12_readNumber_9 (by decide +kernel) ?_
    refine cm_i (pc := 10) hw1 (rn_M (As := [.int 1]) (rest := []) E hw1 (s_errsT l D cI cJ _ M mr mi mf mg 1) (gdV q_1698 q_1700 q_60 q_162 q_1701) hdV_X12_errs ⟨rfl, rfl⟩ ⟨(Nat.le_of_ble_eq_true rfl), (Nat.le_of_ble_eq_true rfl)⟩ ⟨(Nat.le_of_ble_eq_true rfl), (Nat.le_of_ble_eq_true rfl)⟩ 12 rfl rfl rfl rfl hl3.1 rfl (Nat.le_of_ble_eq_true rfl) dX12_readNumber_10) (fun r_54 u_53 H1 locs hp hw55 => ?_)
    obtain ⟨nreadFault_56, nreadPlace_57⟩ := u_53
    generalize H1 = H at hw55 ⊢
    have hw58 : WD D A s.heap (MW cI cJ M mr (upd (upd mi 38 nreadFault_56) 39 nreadPlace_57) mf mg) H locs := hw55
    obtain ⟨hp_59, hp_60, hp_61⟩ := hp
    have hp_59 : nreadFault_56.toInt = (1 : Int32).toInt := hp_59
    rw [show (1 : Int32).toInt = 1 from by decide +kernel] at hp_59
    have hp_60 : nreadPlace_57.toInt = (mi 23).toInt := hp_60
    rcases hp_61 with rfl
    · skip
      exact em_i (w1 := (fun (u : Int32 × Int32 × Int32 × Int32 × Int32 × Int32) => (MW cI cJ M mr (upd (upd (upd (upd (upd (upd mi 22 u.1) 23 u.2.1) 24 u.2.2.1) 25 u.2.2.2.1) 38 u.2.2.2.2.1) 39 u.2.2.2.2.2) mf mg))) E hr hlk ((mi 22), (mi 23), (mi 24), (mi 25), nreadFault_56, nreadPlace_57) hw58 ⟨h0, h1, h2, h4, h5, h6, lf_again, (show (∀ p : Int, TKR (mf 20) (mi 21).toInt p (mi 23).toInt (mi 22).toInt (mi 24).toInt (mi 25).toInt → RN (mf 20) (mi 21).toInt (numR (mf 20) (mi 21).toInt (z_low : Int32).toInt (z_high : Int32).toInt p) ((-1) : Int32).toInt nreadFault_56.toInt nreadPlace_57.toInt (mi 23).toInt (mi 22).toInt (mi 24).toInt (mi 25).toInt) from (fun p hp => RN_no hp (by omega) (by decide +kernel) (by have k1 : (1 : Int32).toInt = 1 := (by decide +kernel); omega) (by omega))), (Or.inl rfl)⟩ (Nat.le_of_ble_eq_true rfl) (Nat.le_of_ble_eq_true rfl) dX12_readNumber_13
