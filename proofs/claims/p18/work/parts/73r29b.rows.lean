set_option maxHeartbeats 4000000 in
set_option maxRecDepth 100000 in
theorem s_isLineWord (l : Launch) (D : va_G) (cI cJ : ClassId) (sz M : Nat) (mr : Nat → Nat) (mi : Nat → Int32) (mf : Nat → Nat → Int32) (mg : Nat → Nat → Int64)   : Met l yX12_isLineWord (Cond.code yX12_isLineWord cX12_isLineWord 1 (some .boolean) :: GW) ({ frames := 2, cells := 0, slots := 0, locals := 61 } : Room) (va_Pc [.ref M] (PW D cI cJ sz (MW cI cJ M mr mi mf mg) xT)) (va_Qi (fun (r : Int32) (u : Unit) => ((r = 1 ∧ (mi 24).toInt = 2) ∨ (r = 0))) (fun u => QW D cI cJ (va_A (MW cI cJ M mr mi mf mg) sz) ((fun (u : Unit) => (MW cI cJ M mr mi mf mg)) u)) (va_A (MW cI cJ M mr mi mf mg) sz)) 0 0 (va_A (MW cI cJ M mr mi mf mg) sz) := by
  refine mk_met (y := yX12_isLineWord) (bytes := cX12_isLineWord) (maxL := 1) (avs := [.ref M]) (WS := (MW cI cJ M mr mi mf mg)) (Qf := fun A => va_Qi (fun (r : Int32) (u : Unit) => ((r = 1 ∧ (mi 24).toInt = 2) ∨ (r = 0))) (fun u => QW D cI cJ A ((fun (u : Unit) => (MW cI cJ M mr mi mf mg)) u)) A) (by decide) (Nat.le_of_ble_eq_true rfl) ?_
  intro p e s m below meth c A ls E hr hlk hnm hX hw1 hl2
  have hl3 : lv_has ls 1 [(0, .ref M)] := hl2
  refine lv_aload_n (pc := 0) E.1 E.2.1 dX12_isLineWord_0 rfl (lv_at hl3 0 rfl) ?_
  refine lv_aload_n (pc := 1) E.1 E.2.1 dX12_isLineWord_1 rfl (lv_at hl3 0 rfl) ?_
  refine x_get (pc := 2) (T := TX12) (N := 70) (ci := 12) (v := .int (mi 33)) E hw1 inX12 0 33 q_1432 rfl rfl (by decide) rfl rfl dX12_isLineWord_2 ?_
  refine lv_if_ne (pc := 5) (tgt := 12) E.1 E.2.1 dX12_isLineWord_5 (by decide) (fun c_4 => ?_) (fun c_4 => ?_)
  · skip
    have hc_4 := neE (a := (mi 33).toInt) (b := 0) rfl (by decide +kernel) c_4
    refine lv_iconst (pc := 12) (v := 1) E.1 E.2.1 dX12_isLineWord_12 (by decide +kernel) ?_
    refine cm_i (pc := 13) hw1 (rn_M (As := [.int 1]) (rest := []) E hw1 (s_isWord2 l D cI cJ _ M mr mi mf mg 1) (gdV q_1694 q_1696 q_59 q_162 q_1697) hdV_X12_isWord ⟨rfl, rfl⟩ ⟨(Nat.le_of_ble_eq_true rfl), (Nat.le_of_ble_eq_true rfl)⟩ ⟨(Nat.le_of_ble_eq_true rfl), (Nat.le_of_ble_eq_true rfl)⟩ 12 rfl rfl rfl rfl hl3.1 rfl (Nat.le_of_ble_eq_true rfl) dX12_isLineWord_13) (fun r_6 u_5 H1 locs hp hw7 => ?_)
    generalize H1 = H at hw7 ⊢
    have hw8 : WD D A s.heap (MW cI cJ M mr mi mf mg) H locs := hw7
    have hp_9 := hp
    rcases hp_9 with ⟨rfl, ha_10, ha_11⟩ | rfl
    · skip
      have ha_10 : (mi 24).toInt = 2 := ha_10
      have ha_11 : (mi 25).toInt = (1 : Int32).toInt := ha_11
      rw [show (1 : Int32).toInt = 1 from by decide +kernel] at ha_11
      exact em_z (w1 := (fun (u : Unit) => (MW cI cJ M mr mi mf mg))) E hr hlk () hw8 (Or.inl ⟨rfl, (by show (mi 24).toInt = 2; omega)⟩) (by decide +kernel) (Nat.le_of_ble_eq_true rfl) (Nat.le_of_ble_eq_true rfl) dX12_isLineWord_16
    · skip
      exact em_z (w1 := (fun (u : Unit) => (MW cI cJ M mr mi mf mg))) E hr hlk () hw8 (Or.inr (rfl)) (by decide +kernel) (Nat.le_of_ble_eq_true rfl) (Nat.le_of_ble_eq_true rfl) dX12_isLineWord_16
  · skip
    have hc_4 := eqE (a := (mi 33).toInt) (b := 0) rfl (by decide +kernel) c_4
    refine lv_iconst (pc := 8) (v := 0) E.1 E.2.1 dX12_isLineWord_8 (by decide +kernel) ?_
    refine lv_goto (pc := 9) (tgt := 13) E.1 E.2.1 dX12_isLineWord_9 (by decide) ?_
    refine cm_i (pc := 13) hw1 (rn_M (As := [.int 0]) (rest := []) E hw1 (s_isWord2 l D cI cJ _ M mr mi mf mg 0) (gdV q_1694 q_1696 q_59 q_162 q_1697) hdV_X12_isWord ⟨rfl, rfl⟩ ⟨(Nat.le_of_ble_eq_true rfl), (Nat.le_of_ble_eq_true rfl)⟩ ⟨(Nat.le_of_ble_eq_true rfl), (Nat.le_of_ble_eq_true rfl)⟩ 12 rfl rfl rfl rfl hl3.1 rfl (Nat.le_of_ble_eq_true rfl) dX12_isLineWord_13) (fun r_13 u_12 H1 locs hp hw14 => ?_)
    generalize H1 = H at hw14 ⊢
    have hw15 : WD D A s.heap (MW cI cJ M mr mi mf mg) H locs := hw14
    have hp_16 := hp
    rcases hp_16 with ⟨rfl, ha_17, ha_18⟩ | rfl
    · skip
      have ha_17 : (mi 24).toInt = 2 := ha_17
      have ha_18 : (mi 25).toInt = (0 : Int32).toInt := ha_18
      rw [show (0 : Int32).toInt = 0 from by decide +kernel] at ha_18
      exact em_z (w1 := (fun (u : Unit) => (MW cI cJ M mr mi mf mg))) E hr hlk () hw15 (Or.inl ⟨rfl, (by show (mi 24).toInt = 2; omega)⟩) (by decide +kernel) (Nat.le_of_ble_eq_true rfl) (Nat.le_of_ble_eq_true rfl) dX12_isLineWord_16
    · skip
      exact em_z (w1 := (fun (u : Unit) => (MW cI cJ M mr mi mf mg))) E hr hlk () hw15 (Or.inr (rfl)) (by decide +kernel) (Nat.le_of_ble_eq_true rfl) (Nat.le_of_ble_eq_true rfl) dX12_isLineWord_16

set_option maxHeartbeats 4000000 in
set_option maxRecDepth 100000 in
theorem s_readLaw (l : Launch) (D : va_G) (cI cJ : ClassId) (sz M : Nat) (mr : Nat → Nat) (mi : Nat → Int32) (mf : Nat → Nat → Int32) (mg : Nat → Nat → Int64)  (h0 : 0 ≤ (mi 23).toInt) (h1 : (mi 23).toInt ≤ (mi 22).toInt) (h2 : (mi 22).toInt ≤ (mi 21).toInt) (h3 : (mi 21).toInt ≤ 400) (h4 : 0 ≤ (mi 24).toInt) (h5 : (mi 24).toInt ≤ 4) (h6 : (mi 24).toInt ≤ 4 * (mi 22).toInt - 4 * (mi 23).toInt) (h7 : ((mf 26) 153).toInt = 32) (h8 : 0 ≤ (mi 34).toInt) (h9 : (mi 34).toInt ≤ (mi 23).toInt) (h10 : 0 ≤ (mi 35).toInt ∧ (mi 35).toInt ≤ 8) (h11 : 0 ≤ ((mf 27) 0).toInt) (h12 : ((mf 27) 0).toInt ≤ 16) (h13 : 0 ≤ ((mf 27) 1).toInt) (h14 : ((mf 27) 1).toInt ≤ 16) (lf_law0 : LW 0 0 (mf 31) (mf 32) (mf 28) (mf 29) (mf 30) ((mf 27) 0).toInt 400) (lf_law1 : LW 16 400 (mf 31) (mf 32) (mf 28) (mf 29) (mf 30) ((mf 27) 1).toInt 400) : Met l yX12_readLaw (Cond.code yX12_readLaw cX12_readLaw 3 (some .int) :: GW) ({ frames := 9, cells := 0, slots := 0, locals := 212 } : Room) (va_Pc [.ref M] (PW D cI cJ sz (MW cI cJ M mr mi mf mg) xT)) (va_Qi (fun (r : Int32) (u : Int32 × Int32 × Int32 × Int32 × (Nat → Int32) × (Nat → Int32) × Int32 × Int32 × Int32 × (Nat → Int32) × Int32 × Int32 × (Nat → Int32) × (Nat → Int32) × (Nat → Int32)) => (0 ≤ u.2.1.toInt) ∧ (u.2.1.toInt ≤ u.1.toInt) ∧ (u.1.toInt ≤ (mi 21).toInt) ∧ (0 ≤ u.2.2.1.toInt) ∧ (u.2.2.1.toInt ≤ 4) ∧ (u.2.2.1.toInt ≤ 4 * u.1.toInt - 4 * u.2.1.toInt) ∧ (0 ≤ u.2.2.2.2.2.2.1.toInt) ∧ (u.2.2.2.2.2.2.1.toInt ≤ u.2.1.toInt) ∧ (0 ≤ u.2.2.2.2.2.2.2.2.2.2.2.1.toInt) ∧ (u.2.2.2.2.2.2.2.2.2.2.2.1.toInt ≤ 8) ∧ (LW 0 0 u.2.2.2.2.1 u.2.2.2.2.2.1 u.2.2.2.2.2.2.2.2.2.2.2.2.1 u.2.2.2.2.2.2.2.2.2.2.2.2.2.1 u.2.2.2.2.2.2.2.2.2.2.2.2.2.2 ((mf 27) 0).toInt 400) ∧ (LW 16 400 u.2.2.2.2.1 u.2.2.2.2.2.1 u.2.2.2.2.2.2.2.2.2.2.2.2.1 u.2.2.2.2.2.2.2.2.2.2.2.2.2.1 u.2.2.2.2.2.2.2.2.2.2.2.2.2.2 ((mf 27) 1).toInt 400) ∧ ((0 ≤ (r : Int32).toInt → LW 32 800 u.2.2.2.2.1 u.2.2.2.2.2.1 u.2.2.2.2.2.2.2.2.2.2.2.2.1 u.2.2.2.2.2.2.2.2.2.2.2.2.2.1 u.2.2.2.2.2.2.2.2.2.2.2.2.2.2 (r : Int32).toInt u.2.2.2.2.2.2.1.toInt)) ∧ ((r = (-1)) ∨ (0 ≤ r.toInt ∧ r.toInt ≤ 16))) (fun u => QW D cI cJ (va_A (MW cI cJ M mr mi mf mg) sz) ((fun (u : Int32 × Int32 × Int32 × Int32 × (Nat → Int32) × (Nat → Int32) × Int32 × Int32 × Int32 × (Nat → Int32) × Int32 × Int32 × (Nat → Int32) × (Nat → Int32) × (Nat → Int32)) => (MW cI cJ M mr (upd (upd (upd (upd (upd (upd (upd (upd (upd mi 22 u.1) 23 u.2.1) 24 u.2.2.1) 25 u.2.2.2.1) 34 u.2.2.2.2.2.2.1) 38 u.2.2.2.2.2.2.2.1) 39 u.2.2.2.2.2.2.2.2.1) 37 u.2.2.2.2.2.2.2.2.2.2.1) 35 u.2.2.2.2.2.2.2.2.2.2.2.1) (va_up (va_up (va_up (va_up (va_up (va_up mf 31 u.2.2.2.2.1) 32 u.2.2.2.2.2.1) 36 u.2.2.2.2.2.2.2.2.2.1) 28 u.2.2.2.2.2.2.2.2.2.2.2.2.1) 29 u.2.2.2.2.2.2.2.2.2.2.2.2.2.1) 30 u.2.2.2.2.2.2.2.2.2.2.2.2.2.2) mg)) u)) (va_A (MW cI cJ M mr mi mf mg) sz)) 0 0 (va_A (MW cI cJ M mr mi mf mg) sz) := by
  refine mk_met (y := yX12_readLaw) (bytes := cX12_readLaw) (maxL := 3) (avs := [.ref M]) (WS := (MW cI cJ M mr mi mf mg)) (Qf := fun A => va_Qi (fun (r : Int32) (u : Int32 × Int32 × Int32 × Int32 × (Nat → Int32) × (Nat → Int32) × Int32 × Int32 × Int32 × (Nat → Int32) × Int32 × Int32 × (Nat → Int32) × (Nat → Int32) × (Nat → Int32)) => (0 ≤ u.2.1.toInt) ∧ (u.2.1.toInt ≤ u.1.toInt) ∧ (u.1.toInt ≤ (mi 21).toInt) ∧ (0 ≤ u.2.2.1.toInt) ∧ (u.2.2.1.toInt ≤ 4) ∧ (u.2.2.1.toInt ≤ 4 * u.1.toInt - 4 * u.2.1.toInt) ∧ (0 ≤ u.2.2.2.2.2.2.1.toInt) ∧ (u.2.2.2.2.2.2.1.toInt ≤ u.2.1.toInt) ∧ (0 ≤ u.2.2.2.2.2.2.2.2.2.2.2.1.toInt) ∧ (u.2.2.2.2.2.2.2.2.2.2.2.1.toInt ≤ 8) ∧ (LW 0 0 u.2.2.2.2.1 u.2.2.2.2.2.1 u.2.2.2.2.2.2.2.2.2.2.2.2.1 u.2.2.2.2.2.2.2.2.2.2.2.2.2.1 u.2.2.2.2.2.2.2.2.2.2.2.2.2.2 ((mf 27) 0).toInt 400) ∧ (LW 16 400 u.2.2.2.2.1 u.2.2.2.2.2.1 u.2.2.2.2.2.2.2.2.2.2.2.2.1 u.2.2.2.2.2.2.2.2.2.2.2.2.2.1 u.2.2.2.2.2.2.2.2.2.2.2.2.2.2 ((mf 27) 1).toInt 400) ∧ ((0 ≤ (r : Int32).toInt → LW 32 800 u.2.2.2.2.1 u.2.2.2.2.2.1 u.2.2.2.2.2.2.2.2.2.2.2.2.1 u.2.2.2.2.2.2.2.2.2.2.2.2.2.1 u.2.2.2.2.2.2.2.2.2.2.2.2.2.2 (r : Int32).toInt u.2.2.2.2.2.2.1.toInt)) ∧ ((r = (-1)) ∨ (0 ≤ r.toInt ∧ r.toInt ≤ 16))) (fun u => QW D cI cJ A ((fun (u : Int32 × Int32 × Int32 × Int32 × (Nat → Int32) × (Nat → Int32) × Int32 × Int32 × Int32 × (Nat → Int32) × Int32 × Int32 × (Nat → Int32) × (Nat → Int32) × (Nat → Int32)) => (MW cI cJ M mr (upd (upd (upd (upd (upd (upd (upd (upd (upd mi 22 u.1) 23 u.2.1) 24 u.2.2.1) 25 u.2.2.2.1) 34 u.2.2.2.2.2.2.1) 38 u.2.2.2.2.2.2.2.1) 39 u.2.2.2.2.2.2.2.2.1) 37 u.2.2.2.2.2.2.2.2.2.2.1) 35 u.2.2.2.2.2.2.2.2.2.2.2.1) (va_up (va_up (va_up (va_up (va_up (va_up mf 31 u.2.2.2.2.1) 32 u.2.2.2.2.2.1) 36 u.2.2.2.2.2.2.2.2.2.1) 28 u.2.2.2.2.2.2.2.2.2.2.2.2.1) 29 u.2.2.2.2.2.2.2.2.2.2.2.2.2.1) 30 u.2.2.2.2.2.2.2.2.2.2.2.2.2.2) mg)) u)) A) (by decide) (Nat.le_of_ble_eq_true rfl) ?_
  intro p e s m below meth c A ls E hr hlk hnm hX hw1 hl2
  have hl3 : lv_has ls 3 [(0, .ref M)] := hl2
  refine lv_iconst (pc := 0) (v := 0) E.1 E.2.1 dX12_readLaw_0 (by decide +kernel) ?_
  refine lv_istore_n (pc := 1) (lv' := [(1, .int 0), (0, .ref M)]) E.1 E.2.1 dX12_readLaw_1 rfl hl3 (by decide) rfl (fun ls hl4 => ?_)
  have loop_5 : ∀ (k : Nat) (x_6 : Int32) (x_7 : Int32) (x_8 : Int32) (x_9 : Int32) (x_10 : Int32) (x_11 : Int32) (x_12 : Int32) (x_13 : Int32) (x_14 : Int32) (x_15 : Int32) (g_16 : Nat → Int32) (g_17 : Nat → Int32) (g_18 : Nat → Int32) (g_19 : Nat → Int32) (g_20 : Nat → Int32) (g_21 : Nat → Int32) (H : Heap) (locs : List Loc) (ls : Array Slot), (0 ≤ x_8.toInt) ∧ (x_8.toInt ≤ x_7.toInt) ∧ (x_7.toInt ≤ (mi 21).toInt) ∧ (0 ≤ x_9.toInt) ∧ (x_9.toInt ≤ 4) ∧ (x_9.toInt ≤ 4 * x_7.toInt - 4 * x_8.toInt) ∧ (0 ≤ x_11.toInt) ∧ (x_11.toInt ≤ x_8.toInt) ∧ (0 ≤ x_15.toInt) ∧ (x_15.toInt ≤ 8) ∧ (0 ≤ x_6.toInt) ∧ (x_6.toInt ≤ 16) ∧ (LW 32 800 g_16 g_17 g_19 g_20 g_21 x_6.toInt x_11.toInt) ∧ (LW 0 0 g_16 g_17 g_19 g_20 g_21 ((mf 27) 0).toInt 400) ∧ (LW 16 400 g_16 g_17 g_19 g_20 g_21 ((mf 27) 1).toInt 400) → (mi 21).toInt - x_8.toInt < (k : Int) → WD D A s.heap (MW cI cJ M mr (upd (upd (upd (upd (upd (upd (upd (upd (upd mi 22 x_7) 23 x_8) 24 x_9) 25 x_10) 34 x_11) 35 x_15) 37 x_14) 38 x_12) 39 x_13) (va_up (va_up (va_up (va_up (va_up (va_up mf 28 g_19) 29 g_20) 30 g_21) 31 g_16) 32 g_17) 36 g_18) mg) H locs → lv_has ls 3 [(1, .int x_6), (0, .ref M)] → W p l e ({ frames := 9, cells := 0, slots := 0, locals := 212 } : Room) s m ([.ref M] : List Value).toArray below meth c H locs 0 0 (MQ below (va_Qi (fun (r : Int32) (u : Int32 × Int32 × Int32 × Int32 × (Nat → Int32) × (Nat → Int32) × Int32 × Int32 × Int32 × (Nat → Int32) × Int32 × Int32 × (Nat → Int32) × (Nat → Int32) × (Nat → Int32)) => (0 ≤ u.2.1.toInt) ∧ (u.2.1.toInt ≤ u.1.toInt) ∧ (u.1.toInt ≤ (mi 21).toInt) ∧ (0 ≤ u.2.2.1.toInt) ∧ (u.2.2.1.toInt ≤ 4) ∧ (u.2.2.1.toInt ≤ 4 * u.1.toInt - 4 * u.2.1.toInt) ∧ (0 ≤ u.2.2.2.2.2.2.1.toInt) ∧ (u.2.2.2.2.2.2.1.toInt ≤ u.2.1.toInt) ∧ (0 ≤ u.2.2.2.2.2.2.2.2.2.2.2.1.toInt) ∧ (u.2.2.2.2.2.2.2.2.2.2.2.1.toInt ≤ 8) ∧ (LW 0 0 u.2.2.2.2.1 u.2.2.2.2.2.1 u.2.2.2.2.2.2.2.2.2.2.2.2.1 u.2.2.2.2.2.2.2.2.2.2.2.2.2.1 u.2.2.2.2.2.2.2.2.2.2.2.2.2.2 ((mf 27) 0).toInt 400) ∧ (LW 16 400 u.2.2.2.2.1 u.2.2.2.2.2.1 u.2.2.2.2.2.2.2.2.2.2.2.2.1 u.2.2.2.2.2.2.2.2.2.2.2.2.2.1 u.2.2.2.2.2.2.2.2.2.2.2.2.2.2 ((mf 27) 1).toInt 400) ∧ ((0 ≤ (r : Int32).toInt → LW 32 800 u.2.2.2.2.1 u.2.2.2.2.2.1 u.2.2.2.2.2.2.2.2.2.2.2.2.1 u.2.2.2.2.2.2.2.2.2.2.2.2.2.1 u.2.2.2.2.2.2.2.2.2.2.2.2.2.2 (r : Int32).toInt u.2.2.2.2.2.2.1.toInt)) ∧ ((r = (-1)) ∨ (0 ≤ r.toInt ∧ r.toInt ≤ 16))) (fun u => QW D cI cJ A ((fun (u : Int32 × Int32 × Int32 × Int32 × (Nat → Int32) × (Nat → Int32) × Int32 × Int32 × Int32 × (Nat → Int32) × Int32 × Int32 × (Nat → Int32) × (Nat → Int32) × (Nat → Int32)) => (MW cI cJ M mr (upd (upd (upd (upd (upd (upd (upd (upd (upd mi 22 u.1) 23 u.2.1) 24 u.2.2.1) 25 u.2.2.2.1) 34 u.2.2.2.2.2.2.1) 38 u.2.2.2.2.2.2.2.1) 39 u.2.2.2.2.2.2.2.2.1) 37 u.2.2.2.2.2.2.2.2.2.2.1) 35 u.2.2.2.2.2.2.2.2.2.2.2.1) (va_up (va_up (va_up (va_up (va_up (va_up mf 31 u.2.2.2.2.1) 32 u.2.2.2.2.2.1) 36 u.2.2.2.2.2.2.2.2.2.1) 28 u.2.2.2.2.2.2.2.2.2.2.2.2.1) 29 u.2.2.2.2.2.2.2.2.2.2.2.2.2.1) 30 u.2.2.2.2.2.2.2.2.2.2.2.2.2.2) mg)) u)) A) ([.ref M] : List Value).toArray s 0 0 A) (F0 m 2 ls []) := by
    intro k
    induction k with
    | zero =>
      intro x_6 x_7 x_8 x_9 x_10 x_11 x_12 x_13 x_14 x_15 g_16 g_17 g_18 g_19 g_20 g_21 _ _ _ hinv hm
      obtain ⟨hi_21_0, hi_21_1, hi_21_2, hi_21_3, hi_21_4, hi_21_5, hi_21_6, hi_21_7, hi_21_8, hi_21_9, hi_21_10, hi_21_11, hi_21_12, hi_21_13, hi_21_14⟩ := hinv
      exact absurd hm (by omega)
    | succ k ih_22 =>
      intro x_6 x_7 x_8 x_9 x_10 x_11 x_12 x_13 x_14 x_15 g_16 g_17 g_18 g_19 g_20 g_21 H locs ls hinv hm hw23 hl24
      obtain ⟨hi_21_0, hi_21_1, hi_21_2, hi_21_3, hi_21_4, hi_21_5, hi_21_6, hi_21_7, hi_21_8, hi_21_9, hi_21_10, hi_21_11, hi_21_12, hi_21_13, hi_21_14⟩ := hinv
      refine lv_aload_n (pc := 2) E.1 E.2.1 dX12_readLaw_2 rfl (lv_at hl24 1 rfl) ?_
      refine cm_i (pc := 3) hw23 (rn_M (As := []) (rest := []) E hw23 (s_isLineWord l D cI cJ _ M mr (upd (upd (upd (upd (upd (upd (upd (upd (upd mi 22 x_7) 23 x_8) 24 x_9) 25 x_10) 34 x_11) 35 x_15) 37 x_14) 38 x_12) 39 x_13) (va_up (va_up (va_up (va_up (va_up (va_up mf 28 g_19) 29 g_20) 30 g_21) 31 g_16) 32 g_17) 36 g_18) mg ) (gdV q_1766 q_1768 q_77 q_162 q_1769) hdV_X12_isLineWord ⟨rfl, rfl⟩ ⟨(Nat.le_of_ble_eq_true rfl), (Nat.le_of_ble_eq_true rfl)⟩ ⟨(Nat.le_of_ble_eq_true rfl), (Nat.le_of_ble_eq_true rfl)⟩ 12 rfl rfl rfl rfl hl24.1 rfl (Nat.le_of_ble_eq_true rfl) dX12_readLaw_3) (fun r_26 u_25 H1 locs hp hw27 => ?_)
      generalize H1 = H at hw27 ⊢
      have hw28 : WD D A s.heap (MW cI cJ M mr (upd (upd (upd (upd (upd (upd (upd (upd (upd mi 22 x_7) 23 x_8) 24 x_9) 25 x_10) 34 x_11) 35 x_15) 37 x_14) 38 x_12) 39 x_13) (va_up (va_up (va_up (va_up (va_up (va_up mf 28 g_19) 29 g_20) 30 g_21) 31 g_16) 32 g_17) 36 g_18) mg) H locs := hw27
      have hp_29 := hp
      rcases hp_29 with ⟨rfl, ha_30⟩ | rfl
      · skip
        have ha_30 : x_9.toInt = 2 := ha_30
        refine lv_if_eq (pc := 6) (tgt := 118) E.1 E.2.1 dX12_readLaw_6 (by decide) (fun c_31 => absurd c_31 (mneE (a := 1) (b := 0) (by decide +kernel) (by decide +kernel) (by omega))) (fun _ => ?_)
        refine lv_iload_n (pc := 9) E.1 E.2.1 dX12_readLaw_9 rfl (lv_at hl24 0 rfl) ?_
        refine lv_bipush (pc := 10) (v := 16) E.1 E.2.1 dX12_readLaw_10 (by decide +kernel) ?_
        refine lv_icmp_ne (pc := 12) (tgt := 21) E.1 E.2.1 dX12_readLaw_12 (by decide) (fun c_32 => ?_) (fun c_32 => ?_)
        · skip
          have hc_32 := neE (a := x_6.toInt) (b := 16) rfl (by decide +kernel) c_32
          refine lv_bipush (pc := 21) (v := 32) E.1 E.2.1 dX12_readLaw_21 (by decide +kernel) ?_
          refine lv_iload_n (pc := 23) E.1 E.2.1 dX12_readLaw_23 rfl (lv_at hl24 0 rfl) ?_
          refine lv_iadd (pc := 24) E.1 E.2.1 dX12_readLaw_24 ?_
          refine lv_topi (fun v_33 ev_33 => ?_)
          have hv_33 : v_33.toInt = 32 + x_6.toInt := by rw [ev_33]; exact addE (by decide +kernel) rfl (by omega)
          refine lv_istore_n (pc := 25) (lv' := [(2, .int v_33), (1, .int x_6), (0, .ref M)]) E.1 E.2.1 dX12_readLaw_25 rfl hl24 (by decide) rfl (fun ls hl34 => ?_)
          refine lv_aload_n (pc := 26) E.1 E.2.1 dX12_readLaw_26 rfl (lv_at hl34 2 rfl) ?_
          refine cm_v (pc := 27) hw28 (rn_M (As := []) (rest := []) E hw28 (s_reads l D cI cJ _ M mr (upd (upd (upd (upd (upd (upd (upd (upd (upd mi 22 x_7) 23 x_8) 24 x_9) 25 x_10) 34 x_11) 35 x_15) 37 x_14) 38 x_12) 39 x_13) (va_up (va_up (va_up (va_up (va_up (va_up mf 28 g_19) 29 g_20) 30 g_21) 31 g_16) 32 g_17) 36 g_18) mg (by show 0 ≤ x_7.toInt; omega) hi_21_2 h3 h7) (gdV q_1666 q_1668 q_52 q_162 q_1669) hdV_X12_reads ⟨rfl, rfl⟩ ⟨(Nat.le_of_ble_eq_true rfl), (Nat.le_of_ble_eq_true rfl)⟩ ⟨(Nat.le_of_ble_eq_true rfl), (Nat.le_of_ble_eq_true rfl)⟩ 12 rfl rfl rfl rfl hl34.1 rfl (Nat.le_of_ble_eq_true rfl) dX12_readLaw_27) (fun u_35 H1 locs hp hw37 => ?_)
          obtain ⟨nspot_38, nfrom_39, ntoken_40, nvalue_41⟩ := u_35
          generalize H1 = H at hw37 ⊢
          have hw42 : WD D A s.heap (MW cI cJ M mr (upd (upd (upd (upd (upd (upd (upd (upd (upd mi 22 nspot_38) 23 nfrom_39) 24 ntoken_40) 25 nvalue_41) 34 x_11) 35 x_15) 37 x_14) 38 x_12) 39 x_13) (va_up (va_up (va_up (va_up (va_up (va_up mf 28 g_19) 29 g_20) 30 g_21) 31 g_16) 32 g_17) 36 g_18) mg) H locs := hw37
          obtain ⟨hp_43, hp_44, hp_45, hp_46, hp_47, hp_48, hp_49⟩ := hp
          have hp_43 : 0 ≤ nfrom_39.toInt := hp_43
          have hp_44 : nfrom_39.toInt ≤ nspot_38.toInt := hp_44
          have hp_45 : nspot_38.toInt ≤ (mi 21).toInt := hp_45
          have hp_46 : 0 ≤ ntoken_40.toInt := hp_46
          have hp_47 : ntoken_40.toInt ≤ 4 := hp_47
          have hp_48 : ntoken_40.toInt ≤ 4 * nspot_38.toInt - 4 * nfrom_39.toInt := hp_48
          have hp_49 : x_7.toInt ≤ nfrom_39.toInt := hp_49
          refine lv_aload_n (pc := 30) E.1 E.2.1 dX12_readLaw_30 rfl (lv_at hl34 2 rfl) ?_
          refine x_get (pc := 31) (T := TX12) (N := 70) (ci := 12) (v := .ref (mr 28)) E hw42 inX12 0 28 q_1427 rfl rfl (by decide) rfl rfl dX12_readLaw_31 ?_
          refine lv_iload_n (pc := 34) E.1 E.2.1 dX12_readLaw_34 rfl (lv_at hl34 0 rfl) ?_
          refine lv_aload_n (pc := 35) E.1 E.2.1 dX12_readLaw_35 rfl (lv_at hl34 2 rfl) ?_
          refine x_get (pc := 36) (T := TX12) (N := 70) (ci := 12) (v := .int x_11) E hw42 inX12 0 34 q_1433 rfl rfl (by decide) rfl rfl dX12_readLaw_36 ?_
          refine x_iastG (pc := 39) (f := g_19) (wf := fun g => (MW cI cJ M mr (upd (upd (upd (upd (upd (upd (upd (upd (upd mi 22 nspot_38) 23 nfrom_39) 24 ntoken_40) 25 nvalue_41) 34 x_11) 35 x_15) 37 x_14) 38 x_12) 39 x_13) (va_up (va_up (va_up (va_up (va_up (va_up mf 28 g) 29 g_20) 30 g_21) 31 g_16) 32 g_17) 36 g_18) mg)) E hw42 15 rfl (inbE (a := v_33.toInt) rfl (by omega)) (fun _ => rfl) dX12_readLaw_39 (fun g_50 H locs eg_50 hw51 => ?_)
          have hlk_52 : LW 0 0 g_16 g_17 g_50 g_20 g_21 ((mf 27) 0).toInt 400 := LW_rows hi_21_13 (fun j hj => un1 eg_50 (by omega) (by omega)) (fun _ _ => rfl) (fun _ _ => rfl) (by omega)
          have hlk_53 : LW 16 400 g_16 g_17 g_50 g_20 g_21 ((mf 27) 1).toInt 400 := LW_rows hi_21_14 (fun j hj => un1 eg_50 (by omega) (by omega)) (fun _ _ => rfl) (fun _ _ => rfl) (by omega)
          refine lv_aload_n (pc := 40) E.1 E.2.1 dX12_readLaw_40 rfl (lv_at hl34 2 rfl) ?_
          refine cm_i (pc := 41) hw51 (rn_M (As := []) (rest := []) E hw51 (s_readSum l D cI cJ _ M mr (upd (upd (upd (upd (upd (upd (upd (upd (upd mi 22 nspot_38) 23 nfrom_39) 24 ntoken_40) 25 nvalue_41) 34 x_11) 35 x_15) 37 x_14) 38 x_12) 39 x_13) (va_up (va_up (va_up (va_up (va_up (va_up mf 28 g_50) 29 g_20) 30 g_21) 31 g_16) 32 g_17) 36 g_18) mg hp_43 hp_44 hp_45 h3 hp_46 hp_47 hp_48 h7 hi_21_6 (by show x_11.toInt ≤ nfrom_39.toInt; omega) (show LW 0 0 g_16 g_17 g_50 g_20 g_21 ((mf 27) 0).toInt 400 from hlk_52) (show LW 16 400 g_16 g_17 g_50 g_20 g_21 ((mf 27) 1).toInt 400 from hlk_53)) (gdV q_1770 q_1772 q_78 q_162 q_1773) hdV_X12_readSum ⟨rfl, rfl⟩ ⟨(Nat.le_of_ble_eq_true rfl), (Nat.le_of_ble_eq_true rfl)⟩ ⟨(Nat.le_of_ble_eq_true rfl), (Nat.le_of_ble_eq_true rfl)⟩ 12 rfl rfl rfl rfl hl34.1 rfl (Nat.le_of_ble_eq_true rfl) dX12_readLaw_41) (fun r_55 u_54 H1 locs hp hw56 => ?_)
          obtain ⟨nspot_57, nfrom_58, ntoken_59, nvalue_60, gop_61, garg_62, ncodes_63, nreadFault_64, nreadPlace_65⟩ := u_54
          generalize H1 = H at hw56 ⊢
          have hw66 : WD D A s.heap (MW cI cJ M mr (upd (upd (upd (upd (upd (upd (upd (upd (upd mi 22 nspot_57) 23 nfrom_58) 24 ntoken_59) 25 nvalue_60) 34 ncodes_63) 35 x_15) 37 x_14) 38 nreadFault_64) 39 nreadPlace_65) (va_up (va_up (va_up (va_up (va_up (va_up mf 28 g_50) 29 g_20) 30 g_21) 31 gop_61) 32 garg_62) 36 g_18) mg) H locs := hw56
          obtain ⟨hp_67, hp_68, hp_69, hp_70, hp_71, hp_72, hp_73, hp_74, hp_75, hp_76, hp_77, hp_78⟩ := hp
          have hp_67 : 0 ≤ nfrom_58.toInt := hp_67
          have hp_68 : nfrom_58.toInt ≤ nspot_57.toInt := hp_68
          have hp_69 : nspot_57.toInt ≤ (mi 21).toInt := hp_69
          have hp_70 : 0 ≤ ntoken_59.toInt := hp_70
          have hp_71 : ntoken_59.toInt ≤ 4 := hp_71
          have hp_72 : ntoken_59.toInt ≤ 4 * nspot_57.toInt - 4 * nfrom_58.toInt := hp_72
          have hp_73 : 0 ≤ ncodes_63.toInt := hp_73
          have hp_74 : ncodes_63.toInt ≤ nfrom_58.toInt := hp_74
          have hp_75 : LW 0 0 gop_61 garg_62 g_50 g_20 g_21 ((mf 27) 0).toInt 400 := hp_75
          have hp_76 : LW 16 400 gop_61 garg_62 g_50 g_20 g_21 ((mf 27) 1).toInt 400 := hp_76
          have hp_77 : r_55 = 0 → TX g_16 g_17 (800 + (x_11.toInt).toNat) gop_61 garg_62 (800 + (ncodes_63.toInt).toNat) := hp_77
          rcases hp_78 with rfl | ⟨rfl, ha_79, ha_80⟩
          · skip
            refine lv_iconst (pc := 44) (v := (-1)) E.1 E.2.1 dX12_readLaw_44 (by decide +kernel) ?_
            refine lv_icmp_ne (pc := 45) (tgt := 50) E.1 E.2.1 dX12_readLaw_45 (by decide) (fun c_81 => absurd (meqE (a := (-1)) (b := (-1)) (by decide +kernel) (by decide +kernel) (by omega)) c_81) (fun _ => ?_)
            refine lv_iconst (pc := 48) (v := (-1)) E.1 E.2.1 dX12_readLaw_48 (by decide +kernel) ?_
            exact em_i (w1 := (fun (u : Int32 × Int32 × Int32 × Int32 × (Nat → Int32) × (Nat → Int32) × Int32 × Int32 × Int32 × (Nat → Int32) × Int32 × Int32 × (Nat → Int32) × (Nat → Int32) × (Nat → Int32)) => (MW cI cJ M mr (upd (upd (upd (upd (upd (upd (upd (upd (upd mi 22 u.1) 23 u.2.1) 24 u.2.2.1) 25 u.2.2.2.1) 34 u.2.2.2.2.2.2.1) 38 u.2.2.2.2.2.2.2.1) 39 u.2.2.2.2.2.2.2.2.1) 37 u.2.2.2.2.2.2.2.2.2.2.1) 35 u.2.2.2.2.2.2.2.2.2.2.2.1) (va_up (va_up (va_up (va_up (va_up (va_up mf 31 u.2.2.2.2.1) 32 u.2.2.2.2.2.1) 36 u.2.2.2.2.2.2.2.2.2.1) 28 u.2.2.2.2.2.2.2.2.2.2.2.2.1) 29 u.2.2.2.2.2.2.2.2.2.2.2.2.2.1) 30 u.2.2.2.2.2.2.2.2.2.2.2.2.2.2) mg))) E hr hlk (nspot_57, nfrom_58, ntoken_59, nvalue_60, gop_61, garg_62, ncodes_63, nreadFault_64, nreadPlace_65, g_18, x_14, x_15, g_50, g_20, g_21) hw66 ⟨hp_67, hp_68, hp_69, hp_70, hp_71, hp_72, hp_73, hp_74, hi_21_8, hi_21_9, hp_75, hp_76, (show (0 ≤ ((-1) : Int32).toInt → LW 32 800 gop_61 garg_62 g_50 g_20 g_21 ((-1) : Int32).toInt ncodes_63.toInt) from (fun h => absurd h (by decide +kernel))), (Or.inl rfl)⟩ (Nat.le_of_ble_eq_true rfl) (Nat.le_of_ble_eq_true rfl) dX12_readLaw_49
          · skip
            have hp_77 := hp_77 rfl
            have ha_79 : nfrom_39.toInt - x_11.toInt ≤ nfrom_58.toInt - ncodes_63.toInt := ha_79
            have ha_80 : nfrom_39.toInt + 1 ≤ nfrom_58.toInt := ha_80
            refine lv_iconst (pc := 44) (v := (-1)) E.1 E.2.1 dX12_readLaw_44 (by decide +kernel) ?_
            refine lv_icmp_ne (pc := 45) (tgt := 50) E.1 E.2.1 dX12_readLaw_45 (by decide) (fun _ => ?_) (fun c_82 => absurd c_82 (mneE (a := 0) (b := (-1)) (by decide +kernel) (by decide +kernel) (by omega)))
            refine lv_aload_n (pc := 50) E.1 E.2.1 dX12_readLaw_50 rfl (lv_at hl34 2 rfl) ?_
            refine x_get (pc := 51) (T := TX12) (N := 70) (ci := 12) (v := .ref (mr 29)) E hw66 inX12 0 29 q_1428 rfl rfl (by decide) rfl rfl dX12_readLaw_51 ?_
            refine lv_iload_n (pc := 54) E.1 E.2.1 dX12_readLaw_54 rfl (lv_at hl34 0 rfl) ?_
            refine lv_aload_n (pc := 55) E.1 E.2.1 dX12_readLaw_55 rfl (lv_at hl34 2 rfl) ?_
            refine x_get (pc := 56) (T := TX12) (N := 70) (ci := 12) (v := .int ncodes_63) E hw66 inX12 0 34 q_1433 rfl rfl (by decide) rfl rfl dX12_readLaw_56 ?_
            refine x_iastG (pc := 59) (f := g_20) (wf := fun g => (MW cI cJ M mr (upd (upd (upd (upd (upd (upd (upd (upd (upd mi 22 nspot_57) 23 nfrom_58) 24 ntoken_59) 25 nvalue_60) 34 ncodes_63) 35 x_15) 37 x_14) 38 nreadFault_64) 39 nreadPlace_65) (va_up (va_up (va_up (va_up (va_up (va_up mf 28 g_50) 29 g) 30 g_21) 31 gop_61) 32 garg_62) 36 g_18) mg)) E hw66 16 rfl (inbE (a := v_33.toInt) rfl (by omega)) (fun _ => rfl) dX12_readLaw_59 (fun g_83 H locs eg_83 hw84 => ?_)
            have hlk_85 : LW 0 0 gop_61 garg_62 g_50 g_83 g_21 ((mf 27) 0).toInt 400 := LW_rows hp_75 (fun _ _ => rfl) (fun j hj => un1 eg_83 (by omega) (by omega)) (fun _ _ => rfl) (by omega)
            have hlk_86 : LW 16 400 gop_61 garg_62 g_50 g_83 g_21 ((mf 27) 1).toInt 400 := LW_rows hp_76 (fun _ _ => rfl) (fun j hj => un1 eg_83 (by omega) (by omega)) (fun _ _ => rfl) (by omega)
            refine lv_aload_n (pc := 60) E.1 E.2.1 dX12_readLaw_60 rfl (lv_at hl34 2 rfl) ?_
            refine lv_iconst (pc := 61) (v := 2) E.1 E.2.1 dX12_readLaw_61 (by decide +kernel) ?_
            refine cm_i (pc := 62) hw84 (rn_M (As := [.int 2]) (rest := []) E hw84 (s_isWord2 l D cI cJ _ M mr (upd (upd (upd (upd (upd (upd (upd (upd (upd mi 22 nspot_57) 23 nfrom_58) 24 ntoken_59) 25 nvalue_60) 34 ncodes_63) 35 x_15) 37 x_14) 38 nreadFault_64) 39 nreadPlace_65) (va_up (va_up (va_up (va_up (va_up (va_up mf 28 g_50) 29 g_83) 30 g_21) 31 gop_61) 32 garg_62) 36 g_18) mg 2) (gdV q_1694 q_1696 q_59 q_162 q_1697) hdV_X12_isWord ⟨rfl, rfl⟩ ⟨(Nat.le_of_ble_eq_true rfl), (Nat.le_of_ble_eq_true rfl)⟩ ⟨(Nat.le_of_ble_eq_true rfl), (Nat.le_of_ble_eq_true rfl)⟩ 12 rfl rfl rfl rfl hl34.1 rfl (Nat.le_of_ble_eq_true rfl) dX12_readLaw_62) (fun r_88 u_87 H1 locs hp hw89 => ?_)
            generalize H1 = H at hw89 ⊢
            have hw90 : WD D A s.heap (MW cI cJ M mr (upd (upd (upd (upd (upd (upd (upd (upd (upd mi 22 nspot_57) 23 nfrom_58) 24 ntoken_59) 25 nvalue_60) 34 ncodes_63) 35 x_15) 37 x_14) 38 nreadFault_64) 39 nreadPlace_65) (va_up (va_up (va_up (va_up (va_up (va_up mf 28 g_50) 29 g_83) 30 g_21) 31 gop_61) 32 garg_62) 36 g_18) mg) H locs := hw89
            have hp_91 := hp
            rcases hp_91 with ⟨rfl, ha_92, ha_93⟩ | rfl
            · skip
              have ha_92 : ntoken_59.toInt = 2 := ha_92
              have ha_93 : nvalue_60.toInt = (2 : Int32).toInt := ha_93
              rw [show (2 : Int32).toInt = 2 from by decide +kernel] at ha_93
              refine lv_if_eq (pc := 65) (tgt := 82) E.1 E.2.1 dX12_readLaw_65 (by decide) (fun c_94 => absurd c_94 (mneE (a := 1) (b := 0) (by decide +kernel) (by decide +kernel) (by omega))) (fun _ => ?_)
              refine lv_aload_n (pc := 68) E.1 E.2.1 dX12_readLaw_68 rfl (lv_at hl34 2 rfl) ?_
              refine cm_v (pc := 69) hw90 (rn_M (As := []) (rest := []) E hw90 (s_reads l D cI cJ _ M mr (upd (upd (upd (upd (upd (upd (upd (upd (upd mi 22 nspot_57) 23 nfrom_58) 24 ntoken_59) 25 nvalue_60) 34 ncodes_63) 35 x_15) 37 x_14) 38 nreadFault_64) 39 nreadPlace_65) (va_up (va_up (va_up (va_up (va_up (va_up mf 28 g_50) 29 g_83) 30 g_21) 31 gop_61) 32 garg_62) 36 g_18) mg (by show 0 ≤ nspot_57.toInt; omega) hp_69 h3 h7) (gdV q_1666 q_1668 q_52 q_162 q_1669) hdV_X12_reads ⟨rfl, rfl⟩ ⟨(Nat.le_of_ble_eq_true rfl), (Nat.le_of_ble_eq_true rfl)⟩ ⟨(Nat.le_of_ble_eq_true rfl), (Nat.le_of_ble_eq_true rfl)⟩ 12 rfl rfl rfl rfl hl34.1 rfl (Nat.le_of_ble_eq_true rfl) dX12_readLaw_69) (fun u_95 H1 locs hp hw97 => ?_)
              obtain ⟨nspot_98, nfrom_99, ntoken_100, nvalue_101⟩ := u_95
              generalize H1 = H at hw97 ⊢
              have hw102 : WD D A s.heap (MW cI cJ M mr (upd (upd (upd (upd (upd (upd (upd (upd (upd mi 22 nspot_98) 23 nfrom_99) 24 ntoken_100) 25 nvalue_101) 34 ncodes_63) 35 x_15) 37 x_14) 38 nreadFault_64) 39 nreadPlace_65) (va_up (va_up (va_up (va_up (va_up (va_up mf 28 g_50) 29 g_83) 30 g_21) 31 gop_61) 32 garg_62) 36 g_18) mg) H locs := hw97
              obtain ⟨hp_103, hp_104, hp_105, hp_106, hp_107, hp_108, hp_109⟩ := hp
              have hp_103 : 0 ≤ nfrom_99.toInt := hp_103
              have hp_104 : nfrom_99.toInt ≤ nspot_98.toInt := hp_104
              have hp_105 : nspot_98.toInt ≤ (mi 21).toInt := hp_105
              have hp_106 : 0 ≤ ntoken_100.toInt := hp_106
              have hp_107 : ntoken_100.toInt ≤ 4 := hp_107
              have hp_108 : ntoken_100.toInt ≤ 4 * nspot_98.toInt - 4 * nfrom_99.toInt := hp_108
              have hp_109 : nspot_57.toInt ≤ nfrom_99.toInt := hp_109
              refine lv_aload_n (pc := 72) E.1 E.2.1 dX12_readLaw_72 rfl (lv_at hl34 2 rfl) ?_
              refine cm_i (pc := 73) hw102 (rn_M (As := []) (rest := []) E hw102 (s_readAny l D cI cJ _ M mr (upd (upd (upd (upd (upd (upd (upd (upd (upd mi 22 nspot_98) 23 nfrom_99) 24 ntoken_100) 25 nvalue_101) 34 ncodes_63) 35 x_15) 37 x_14) 38 nreadFault_64) 39 nreadPlace_65) (va_up (va_up (va_up (va_up (va_up (va_up mf 28 g_50) 29 g_83) 30 g_21) 31 gop_61) 32 garg_62) 36 g_18) mg hp_103 hp_104 hp_105 h3 hp_106 hp_107 hp_108 h7 hp_73 (by show ncodes_63.toInt ≤ nfrom_99.toInt; omega) ⟨hi_21_8, hi_21_9⟩ (show LW 0 0 gop_61 garg_62 g_50 g_83 g_21 ((mf 27) 0).toInt 400 from hlk_85) (show LW 16 400 gop_61 garg_62 g_50 g_83 g_21 ((mf 27) 1).toInt 400 from hlk_86)) (gdV q_1790 q_1792 q_83 q_162 q_1793) hdV_X12_readAny ⟨rfl, rfl⟩ ⟨(Nat.le_of_ble_eq_true rfl), (Nat.le_of_ble_eq_true rfl)⟩ ⟨(Nat.le_of_ble_eq_true rfl), (Nat.le_of_ble_eq_true rfl)⟩ 12 rfl rfl rfl rfl hl34.1 rfl (Nat.le_of_ble_eq_true rfl) dX12_readLaw_73) (fun r_111 u_110 H1 locs hp hw112 => ?_)
              obtain ⟨nspot_113, nfrom_114, ntoken_115, nvalue_116, gop_117, garg_118, ncodes_119, nreadFault_120, nreadPlace_121, gpending_122, npendings_123, nopen_124⟩ := u_110
              generalize H1 = H at hw112 ⊢
              have hw125 : WD D A s.heap (MW cI cJ M mr (upd (upd (upd (upd (upd (upd (upd (upd (upd mi 22 nspot_113) 23 nfrom_114) 24 ntoken_115) 25 nvalue_116) 34 ncodes_119) 35 nopen_124) 37 npendings_123) 38 nreadFault_120) 39 nreadPlace_121) (va_up (va_up (va_up (va_up (va_up (va_up mf 28 g_50) 29 g_83) 30 g_21) 31 gop_117) 32 garg_118) 36 gpending_122) mg) H locs := hw112
              obtain ⟨hp_126, hp_127, hp_128, hp_129, hp_130, hp_131, hp_132, hp_133, hp_134, hp_135, hp_136, hp_137, hp_138, hp_139⟩ := hp
              have hp_126 : 0 ≤ nfrom_114.toInt := hp_126
              have hp_127 : nfrom_114.toInt ≤ nspot_113.toInt := hp_127
              have hp_128 : nspot_113.toInt ≤ (mi 21).toInt := hp_128
              have hp_129 : 0 ≤ ntoken_115.toInt := hp_129
              have hp_130 : ntoken_115.toInt ≤ 4 := hp_130
              have hp_131 : ntoken_115.toInt ≤ 4 * nspot_113.toInt - 4 * nfrom_114.toInt := hp_131
              have hp_132 : 0 ≤ ncodes_119.toInt := hp_132
              have hp_133 : ncodes_119.toInt ≤ nfrom_114.toInt := hp_133
              have hp_134 : 0 ≤ nopen_124.toInt := hp_134
              have hp_135 : nopen_124.toInt ≤ 8 := hp_135
              have hp_136 : LW 0 0 gop_117 garg_118 g_50 g_83 g_21 ((mf 27) 0).toInt 400 := hp_136
              have hp_137 : LW 16 400 gop_117 garg_118 g_50 g_83 g_21 ((mf 27) 1).toInt 400 := hp_137
              have hp_138 : r_111 = 0 → TX gop_61 garg_62 (800 + (ncodes_63.toInt).toNat) gop_117 garg_118 (800 + (ncodes_119.toInt).toNat) := hp_138
              rcases hp_139 with rfl | ⟨rfl, ha_140, ha_141⟩
              · skip
                refine lv_iconst (pc := 76) (v := (-1)) E.1 E.2.1 dX12_readLaw_76 (by decide +kernel) ?_
                refine lv_icmp_ne (pc := 77) (tgt := 82) E.1 E.2.1 dX12_readLaw_77 (by decide) (fun c_142 => absurd (meqE (a := (-1)) (b := (-1)) (by decide +kernel) (by decide +kernel) (by omega)) c_142) (fun _ => ?_)
                refine lv_iconst (pc := 80) (v := (-1)) E.1 E.2.1 dX12_readLaw_80 (by decide +kernel) ?_
                exact em_i (w1 := (fun (u : Int32 × Int32 × Int32 × Int32 × (Nat → Int32) × (Nat → Int32) × Int32 × Int32 × Int32 × (Nat → Int32) × Int32 × Int32 × (Nat → Int32) × (Nat → Int32) × (Nat → Int32)) => (MW cI cJ M mr (upd (upd (upd (upd (upd (upd (upd (upd (upd mi 22 u.1) 23 u.2.1) 24 u.2.2.1) 25 u.2.2.2.1) 34 u.2.2.2.2.2.2.1) 38 u.2.2.2.2.2.2.2.1) 39 u.2.2.2.2.2.2.2.2.1) 37 u.2.2.2.2.2.2.2.2.2.2.1) 35 u.2.2.2.2.2.2.2.2.2.2.2.1) (va_up (va_up (va_up (va_up (va_up (va_up mf 31 u.2.2.2.2.1) 32 u.2.2.2.2.2.1) 36 u.2.2.2.2.2.2.2.2.2.1) 28 u.2.2.2.2.2.2.2.2.2.2.2.2.1) 29 u.2.2.2.2.2.2.2.2.2.2.2.2.2.1) 30 u.2.2.2.2.2.2.2.2.2.2.2.2.2.2) mg))) E hr hlk (nspot_113, nfrom_114, ntoken_115, nvalue_116, gop_117, garg_118, ncodes_119, nreadFault_120, nreadPlace_121, gpending_122, npendings_123, nopen_124, g_50, g_83, g_21) hw125 ⟨hp_126, hp_127, hp_128, hp_129, hp_130, hp_131, hp_132, hp_133, hp_134, hp_135, hp_136, hp_137, (show (0 ≤ ((-1) : Int32).toInt → LW 32 800 gop_117 garg_118 g_50 g_83 g_21 ((-1) : Int32).toInt ncodes_119.toInt) from (fun h => absurd h (by decide +kernel))), (Or.inl rfl)⟩ (Nat.le_of_ble_eq_true rfl) (Nat.le_of_ble_eq_true rfl) dX12_readLaw_81
              · skip
                have hp_138 := hp_138 rfl
                have ha_140 : nfrom_99.toInt - ncodes_63.toInt ≤ nfrom_114.toInt - ncodes_119.toInt := ha_140
                have ha_141 : nfrom_99.toInt + 1 ≤ nfrom_114.toInt := ha_141
                refine lv_iconst (pc := 76) (v := (-1)) E.1 E.2.1 dX12_readLaw_76 (by decide +kernel) ?_
                refine lv_icmp_ne (pc := 77) (tgt := 82) E.1 E.2.1 dX12_readLaw_77 (by decide) (fun _ => ?_) (fun c_143 => absurd c_143 (mneE (a := 0) (b := (-1)) (by decide +kernel) (by decide +kernel) (by omega)))
                refine lv_aload_n (pc := 82) E.1 E.2.1 dX12_readLaw_82 rfl (lv_at hl34 2 rfl) ?_
                refine x_get (pc := 83) (T := TX12) (N := 70) (ci := 12) (v := .ref (mr 30)) E hw125 inX12 0 30 q_1429 rfl rfl (by decide) rfl rfl dX12_readLaw_83 ?_
                refine lv_iload_n (pc := 86) E.1 E.2.1 dX12_readLaw_86 rfl (lv_at hl34 0 rfl) ?_
                refine lv_aload_n (pc := 87) E.1 E.2.1 dX12_readLaw_87 rfl (lv_at hl34 2 rfl) ?_
                refine x_get (pc := 88) (T := TX12) (N := 70) (ci := 12) (v := .int ncodes_119) E hw125 inX12 0 34 q_1433 rfl rfl (by decide) rfl rfl dX12_readLaw_88 ?_
                refine x_iastG (pc := 91) (f := g_21) (wf := fun g => (MW cI cJ M mr (upd (upd (upd (upd (upd (upd (upd (upd (upd mi 22 nspot_113) 23 nfrom_114) 24 ntoken_115) 25 nvalue_116) 34 ncodes_119) 35 nopen_124) 37 npendings_123) 38 nreadFault_120) 39 nreadPlace_121) (va_up (va_up (va_up (va_up (va_up (va_up mf 28 g_50) 29 g_83) 30 g) 31 gop_117) 32 garg_118) 36 gpending_122) mg)) E hw125 17 rfl (inbE (a := v_33.toInt) rfl (by omega)) (fun _ => rfl) dX12_readLaw_91 (fun g_144 H locs eg_144 hw145 => ?_)
                have hlk_146 : LW 0 0 gop_117 garg_118 g_50 g_83 g_144 ((mf 27) 0).toInt 400 := LW_rows hp_136 (fun _ _ => rfl) (fun _ _ => rfl) (fun j hj => un1 eg_144 (by omega) (by omega)) (by omega)
                have hlk_147 : LW 16 400 gop_117 garg_118 g_50 g_83 g_144 ((mf 27) 1).toInt 400 := LW_rows hp_137 (fun _ _ => rfl) (fun _ _ => rfl) (fun j hj => un1 eg_144 (by omega) (by omega)) (by omega)
                refine lv_aload_n (pc := 92) E.1 E.2.1 dX12_readLaw_92 rfl (lv_at hl34 2 rfl) ?_
                refine lv_bipush (pc := 93) (v := 59) E.1 E.2.1 dX12_readLaw_93 (by decide +kernel) ?_
                refine cm_i (pc := 95) hw145 (rn_M (As := [.int 59]) (rest := []) E hw145 (s_isSign2 l D cI cJ _ M mr (upd (upd (upd (upd (upd (upd (upd (upd (upd mi 22 nspot_113) 23 nfrom_114) 24 ntoken_115) 25 nvalue_116) 34 ncodes_119) 35 nopen_124) 37 npendings_123) 38 nreadFault_120) 39 nreadPlace_121) (va_up (va_up (va_up (va_up (va_up (va_up mf 28 g_50) 29 g_83) 30 g_144) 31 gop_117) 32 garg_118) 36 gpending_122) mg 59) (gdV q_1718 q_1720 q_65 q_162 q_1721) hdV_X12_isSign ⟨rfl, rfl⟩ ⟨(Nat.le_of_ble_eq_true rfl), (Nat.le_of_ble_eq_true rfl)⟩ ⟨(Nat.le_of_ble_eq_true rfl), (Nat.le_of_ble_eq_true rfl)⟩ 12 rfl rfl rfl rfl hl34.1 rfl (Nat.le_of_ble_eq_true rfl) dX12_readLaw_95) (fun r_149 u_148 H1 locs hp hw150 => ?_)
                generalize H1 = H at hw150 ⊢
                have hw151 : WD D A s.heap (MW cI cJ M mr (upd (upd (upd (upd (upd (upd (upd (upd (upd mi 22 nspot_113) 23 nfrom_114) 24 ntoken_115) 25 nvalue_116) 34 ncodes_119) 35 nopen_124) 37 npendings_123) 38 nreadFault_120) 39 nreadPlace_121) (va_up (va_up (va_up (va_up (va_up (va_up mf 28 g_50) 29 g_83) 30 g_144) 31 gop_117) 32 garg_118) 36 gpending_122) mg) H locs := hw150
                have hp_152 := hp
                rcases hp_152 with ⟨rfl, ha_153, ha_154⟩ | rfl
                · skip
                  have ha_153 : ntoken_115.toInt = 4 := ha_153
                  have ha_154 : nvalue_116.toInt = (59 : Int32).toInt := ha_154
                  rw [show (59 : Int32).toInt = 59 from by decide +kernel] at ha_154
                  refine lv_if_ne (pc := 98) (tgt := 107) E.1 E.2.1 dX12_readLaw_98 (by decide) (fun _ => ?_) (fun c_155 => absurd c_155 (mneE (a := 1) (b := 0) (by decide +kernel) (by decide +kernel) (by omega)))
                  refine lv_aload_n (pc := 107) E.1 E.2.1 dX12_readLaw_107 rfl (lv_at hl34 2 rfl) ?_
                  refine cm_v (pc := 108) hw151 (rn_M (As := []) (rest := []) E hw151 (s_reads l D cI cJ _ M mr (upd (upd (upd (upd (upd (upd (upd (upd (upd mi 22 nspot_113) 23 nfrom_114) 24 ntoken_115) 25 nvalue_116) 34 ncodes_119) 35 nopen_124) 37 npendings_123) 38 nreadFault_120) 39 nreadPlace_121) (va_up (va_up (va_up (va_up (va_up (va_up mf 28 g_50) 29 g_83) 30 g_144) 31 gop_117) 32 garg_118) 36 gpending_122) mg (by show 0 ≤ nspot_113.toInt; omega) hp_128 h3 h7) (gdV q_1666 q_1668 q_52 q_162 q_1669) hdV_X12_reads ⟨rfl, rfl⟩ ⟨(Nat.le_of_ble_eq_true rfl), (Nat.le_of_ble_eq_true rfl)⟩ ⟨(Nat.le_of_ble_eq_true rfl), (Nat.le_of_ble_eq_true rfl)⟩ 12 rfl rfl rfl rfl hl34.1 rfl (Nat.le_of_ble_eq_true rfl) dX12_readLaw_108) (fun u_156 H1 locs hp hw158 => ?_)
                  obtain ⟨nspot_159, nfrom_160, ntoken_161, nvalue_162⟩ := u_156
                  generalize H1 = H at hw158 ⊢
                  have hw163 : WD D A s.heap (MW cI cJ M mr (upd (upd (upd (upd (upd (upd (upd (upd (upd mi 22 nspot_159) 23 nfrom_160) 24 ntoken_161) 25 nvalue_162) 34 ncodes_119) 35 nopen_124) 37 npendings_123) 38 nreadFault_120) 39 nreadPlace_121) (va_up (va_up (va_up (va_up (va_up (va_up mf 28 g_50) 29 g_83) 30 g_144) 31 gop_117) 32 garg_118) 36 gpending_122) mg) H locs := hw158
                  obtain ⟨hp_164, hp_165, hp_166, hp_167, hp_168, hp_169, hp_170⟩ := hp
                  have hp_164 : 0 ≤ nfrom_160.toInt := hp_164
                  have hp_165 : nfrom_160.toInt ≤ nspot_159.toInt := hp_165
                  have hp_166 : nspot_159.toInt ≤ (mi 21).toInt := hp_166
                  have hp_167 : 0 ≤ ntoken_161.toInt := hp_167
                  have hp_168 : ntoken_161.toInt ≤ 4 := hp_168
                  have hp_169 : ntoken_161.toInt ≤ 4 * nspot_159.toInt - 4 * nfrom_160.toInt := hp_169
                  have hp_170 : nspot_113.toInt ≤ nfrom_160.toInt := hp_170
                  refine lv_iload_n (pc := 111) E.1 E.2.1 dX12_readLaw_111 rfl (lv_at hl34 1 rfl) ?_
                  refine lv_iconst (pc := 112) (v := 1) E.1 E.2.1 dX12_readLaw_112 (by decide +kernel) ?_
                  refine lv_iadd (pc := 113) E.1 E.2.1 dX12_readLaw_113 ?_
                  refine lv_topi (fun v_171 ev_171 => ?_)
                  have hv_171 : v_171.toInt = x_6.toInt + 1 := by rw [ev_171]; exact addE rfl (by decide +kernel) (by omega)
                  refine lv_istore_n (pc := 114) (lv' := [(1, .int v_171), (2, .int v_33), (0, .ref M)]) E.1 E.2.1 dX12_readLaw_114 rfl hl34 (by decide) rfl (fun ls hl172 => ?_)
                  refine lv_goto (pc := 115) (tgt := 2) E.1 E.2.1 dX12_readLaw_115 (by decide) ?_
                  exact ih_22 v_171 nspot_159 nfrom_160 ntoken_161 nvalue_162 ncodes_119 nreadFault_120 nreadPlace_121 npendings_123 nopen_124 gop_117 garg_118 gpending_122 g_50 g_83 g_144 _ _ _ ⟨hp_164, hp_165, hp_166, hp_167, hp_168, hp_169, hp_132, (by show ncodes_119.toInt ≤ nfrom_160.toInt; omega), hp_134, hp_135, (by show 0 ≤ v_171.toInt; omega), (by show v_171.toInt ≤ 16; omega), (LW_step hi_21_12 eg_50 eg_83 eg_144 (by omega) (by omega) (by omega) (by omega) (by omega) hp_77 (Or.inr hp_138) (by omega) (by omega) (by have q := hp_77.1; omega) (by have q := hp_138.1; omega) (by omega)), (show LW 0 0 gop_117 garg_118 g_50 g_83 g_144 ((mf 27) 0).toInt 400 from hlk_146), (show LW 16 400 gop_117 garg_118 g_50 g_83 g_144 ((mf 27) 1).toInt 400 from hlk_147)⟩ (by omega) hw163 (lv_sub hl172 [0, 2] rfl)
                · skip
                  refine lv_if_ne (pc := 98) (tgt := 107) E.1 E.2.1 dX12_readLaw_98 (by decide) (fun c_173 => absurd (meqE (a := 0) (b := 0) (by decide +kernel) (by decide +kernel) (by omega)) c_173) (fun _ => ?_)
                  refine lv_aload_n (pc := 101) E.1 E.2.1 dX12_readLaw_101 rfl (lv_at hl34 2 rfl) ?_
                  refine lv_iconst (pc := 102) (v := 1) E.1 E.2.1 dX12_readLaw_102 (by decide +kernel) ?_
                  refine cm_i (pc := 103) hw151 (rn_M (As := [.int 1]) (rest := []) E hw151 (s_errs2 l D cI cJ _ M mr (upd (upd (upd (upd (upd (upd (upd (upd (upd mi 22 nspot_113) 23 nfrom_114) 24 ntoken_115) 25 nvalue_116) 34 ncodes_119) 35 nopen_124) 37 npendings_123) 38 nreadFault_120) 39 nreadPlace_121) (va_up (va_up (va_up (va_up (va_up (va_up mf 28 g_50) 29 g_83) 30 g_144) 31 gop_117) 32 garg_118) 36 gpending_122) mg 1) (gdV q_1698 q_1700 q_60 q_162 q_1701) hdV_X12_errs ⟨rfl, rfl⟩ ⟨(Nat.le_of_ble_eq_true rfl), (Nat.le_of_ble_eq_true rfl)⟩ ⟨(Nat.le_of_ble_eq_true rfl), (Nat.le_of_ble_eq_true rfl)⟩ 12 rfl rfl rfl rfl hl34.1 rfl (Nat.le_of_ble_eq_true rfl) dX12_readLaw_103) (fun r_175 u_174 H1 locs hp hw176 => ?_)
                  obtain ⟨nreadFault_177, nreadPlace_178⟩ := u_174
                  generalize H1 = H at hw176 ⊢
                  have hw179 : WD D A s.heap (MW cI cJ M mr (upd (upd (upd (upd (upd (upd (upd (upd (upd mi 22 nspot_113) 23 nfrom_114) 24 ntoken_115) 25 nvalue_116) 34 ncodes_119) 35 nopen_124) 37 npendings_123) 38 nreadFault_177) 39 nreadPlace_178) (va_up (va_up (va_up (va_up (va_up (va_up mf 28 g_50) 29 g_83) 30 g_144) 31 gop_117) 32 garg_118) 36 gpending_122) mg) H locs := hw176
                  have hp_180 := hp
                  rcases hp_180 with rfl
                  · skip
                    exact em_i (w1 := (fun (u : Int32 × Int32 × Int32 × Int32 × (Nat → Int32) × (Nat → Int32) × Int32 × Int32 × Int32 × (Nat → Int32) × Int32 × Int32 × (Nat → Int32) × (Nat → Int32) × (Nat → Int32)) => (MW cI cJ M mr (upd (upd (upd (upd (upd (upd (upd (upd (upd mi 22 u.1) 23 u.2.1) 24 u.2.2.1) 25 u.2.2.2.1) 34 u.2.2.2.2.2.2.1) 38 u.2.2.2.2.2.2.2.1) 39 u.2.2.2.2.2.2.2.2.1) 37 u.2.2.2.2.2.2.2.2.2.2.1) 35 u.2.2.2.2.2.2.2.2.2.2.2.1) (va_up (va_up (va_up (va_up (va_up (va_up mf 31 u.2.2.2.2.1) 32 u.2.2.2.2.2.1) 36 u.2.2.2.2.2.2.2.2.2.1) 28 u.2.2.2.2.2.2.2.2.2.2.2.2.1) 29 u.2.2.2.2.2.2.2.2.2.2.2.2.2.1) 30 u.2.2.2.2.2.2.2.2.2.2.2.2.2.2) mg))) E hr hlk (nspot_113, nfrom_114, ntoken_115, nvalue_116, gop_117, garg_118, ncodes_119, nreadFault_177, nreadPlace_178, gpending_122, npendings_123, nopen_124, g_50, g_83, g_144) hw179 ⟨hp_126, hp_127, hp_128, hp_129, hp_130, hp_131, hp_132, hp_133, hp_134, hp_135, hlk_146, hlk_147, (show (0 ≤ ((-1) : Int32).toInt → LW 32 800 gop_117 garg_118 g_50 g_83 g_144 ((-1) : Int32).toInt ncodes_119.toInt) from (fun h => absurd h (by decide +kernel))), (Or.inl rfl)⟩ (Nat.le_of_ble_eq_true rfl) (Nat.le_of_ble_eq_true rfl) dX12_readLaw_106
            · skip
              refine lv_if_eq (pc := 65) (tgt := 82) E.1 E.2.1 dX12_readLaw_65 (by decide) (fun _ => ?_) (fun c_181 => absurd (meqE (a := 0) (b := 0) (by decide +kernel) (by decide +kernel) (by omega)) c_181)
              refine lv_aload_n (pc := 82) E.1 E.2.1 dX12_readLaw_82 rfl (lv_at hl34 2 rfl) ?_
              refine x_get (pc := 83) (T := TX12) (N := 70) (ci := 12) (v := .ref (mr 30)) E hw90 inX12 0 30 q_1429 rfl rfl (by decide) rfl rfl dX12_readLaw_83 ?_
              refine lv_iload_n (pc := 86) E.1 E.2.1 dX12_readLaw_86 rfl (lv_at hl34 0 rfl) ?_
              refine lv_aload_n (pc := 87) E.1 E.2.1 dX12_readLaw_87 rfl (lv_at hl34 2 rfl) ?_
              refine x_get (pc := 88) (T := TX12) (N := 70) (ci := 12) (v := .int ncodes_63) E hw90 inX12 0 34 q_1433 rfl rfl (by decide) rfl rfl dX12_readLaw_88 ?_
              refine x_iastG (pc := 91) (f := g_21) (wf := fun g => (MW cI cJ M mr (upd (upd (upd (upd (upd (upd (upd (upd (upd mi 22 nspot_57) 23 nfrom_58) 24 ntoken_59) 25 nvalue_60) 34 ncodes_63) 35 x_15) 37 x_14) 38 nreadFault_64) 39 nreadPlace_65) (va_up (va_up (va_up (va_up (va_up (va_up mf 28 g_50) 29 g_83) 30 g) 31 gop_61) 32 garg_62) 36 g_18) mg)) E hw90 17 rfl (inbE (a := v_33.toInt) rfl (by omega)) (fun _ => rfl) dX12_readLaw_91 (fun g_182 H locs eg_182 hw183 => ?_)
              have hlk_184 : LW 0 0 gop_61 garg_62 g_50 g_83 g_182 ((mf 27) 0).toInt 400 := LW_rows hlk_85 (fun _ _ => rfl) (fun _ _ => rfl) (fun j hj => un1 eg_182 (by omega) (by omega)) (by omega)
              have hlk_185 : LW 16 400 gop_61 garg_62 g_50 g_83 g_182 ((mf 27) 1).toInt 400 := LW_rows hlk_86 (fun _ _ => rfl) (fun _ _ => rfl) (fun j hj => un1 eg_182 (by omega) (by omega)) (by omega)
              refine lv_aload_n (pc := 92) E.1 E.2.1 dX12_readLaw_92 rfl (lv_at hl34 2 rfl) ?_
              refine lv_bipush (pc := 93) (v := 59) E.1 E.2.1 dX12_readLaw_93 (by decide +kernel) ?_
              refine cm_i (pc := 95) hw183 (rn_M (As := [.int 59]) (rest := []) E hw183 (s_isSign2 l D cI cJ _ M mr (upd (upd (upd (upd (upd (upd (upd (upd (upd mi 22 nspot_57) 23 nfrom_58) 24 ntoken_59) 25 nvalue_60) 34 ncodes_63) 35 x_15) 37 x_14) 38 nreadFault_64) 39 nreadPlace_65) (va_up (va_up (va_up (va_up (va_up (va_up mf 28 g_50) 29 g_83) 30 g_182) 31 gop_61) 32 garg_62) 36 g_18) mg 59) (gdV q_1718 q_1720 q_65 q_162 q_1721) hdV_X12_isSign ⟨rfl, rfl⟩ ⟨(Nat.le_of_ble_eq_true rfl), (Nat.le_of_ble_eq_true rfl)⟩ ⟨(Nat.le_of_ble_eq_true rfl), (Nat.le_of_ble_eq_true rfl)⟩ 12 rfl rfl rfl rfl hl34.1 rfl (Nat.le_of_ble_eq_true rfl) dX12_readLaw_95) (fun r_187 u_186 H1 locs hp hw188 => ?_)
              generalize H1 = H at hw188 ⊢
              have hw189 : WD D A s.heap (MW cI cJ M mr (upd (upd (upd (upd (upd (upd (upd (upd (upd mi 22 nspot_57) 23 nfrom_58) 24 ntoken_59) 25 nvalue_60) 34 ncodes_63) 35 x_15) 37 x_14) 38 nreadFault_64) 39 nreadPlace_65) (va_up (va_up (va_up (va_up (va_up (va_up mf 28 g_50) 29 g_83) 30 g_182) 31 gop_61) 32 garg_62) 36 g_18) mg) H locs := hw188
              have hp_190 := hp
              rcases hp_190 with ⟨rfl, ha_191, ha_192⟩ | rfl
              · skip
                have ha_191 : ntoken_59.toInt = 4 := ha_191
                have ha_192 : nvalue_60.toInt = (59 : Int32).toInt := ha_192
                rw [show (59 : Int32).toInt = 59 from by decide +kernel] at ha_192
                refine lv_if_ne (pc := 98) (tgt := 107) E.1 E.2.1 dX12_readLaw_98 (by decide) (fun _ => ?_) (fun c_193 => absurd c_193 (mneE (a := 1) (b := 0) (by decide +kernel) (by decide +kernel) (by omega)))
                refine lv_aload_n (pc := 107) E.1 E.2.1 dX12_readLaw_107 rfl (lv_at hl34 2 rfl) ?_
                refine cm_v (pc := 108) hw189 (rn_M (As := []) (rest := []) E hw189 (s_reads l D cI cJ _ M mr (upd (upd (upd (upd (upd (upd (upd (upd (upd mi 22 nspot_57) 23 nfrom_58) 24 ntoken_59) 25 nvalue_60) 34 ncodes_63) 35 x_15) 37 x_14) 38 nreadFault_64) 39 nreadPlace_65) (va_up (va_up (va_up (va_up (va_up (va_up mf 28 g_50) 29 g_83) 30 g_182) 31 gop_61) 32 garg_62) 36 g_18) mg (by show 0 ≤ nspot_57.toInt; omega) hp_69 h3 h7) (gdV q_1666 q_1668 q_52 q_162 q_1669) hdV_X12_reads ⟨rfl, rfl⟩ ⟨(Nat.le_of_ble_eq_true rfl), (Nat.le_of_ble_eq_true rfl)⟩ ⟨(Nat.le_of_ble_eq_true rfl), (Nat.le_of_ble_eq_true rfl)⟩ 12 rfl rfl rfl rfl hl34.1 rfl (Nat.le_of_ble_eq_true rfl) dX12_readLaw_108) (fun u_194 H1 locs hp hw196 => ?_)
                obtain ⟨nspot_197, nfrom_198, ntoken_199, nvalue_200⟩ := u_194
                generalize H1 = H at hw196 ⊢
                have hw201 : WD D A s.heap (MW cI cJ M mr (upd (upd (upd (upd (upd (upd (upd (upd (upd mi 22 nspot_197) 23 nfrom_198) 24 ntoken_199) 25 nvalue_200) 34 ncodes_63) 35 x_15) 37 x_14) 38 nreadFault_64) 39 nreadPlace_65) (va_up (va_up (va_up (va_up (va_up (va_up mf 28 g_50) 29 g_83) 30 g_182) 31 gop_61) 32 garg_62) 36 g_18) mg) H locs := hw196
                obtain ⟨hp_202, hp_203, hp_204, hp_205, hp_206, hp_207, hp_208⟩ := hp
                have hp_202 : 0 ≤ nfrom_198.toInt := hp_202
                have hp_203 : nfrom_198.toInt ≤ nspot_197.toInt := hp_203
                have hp_204 : nspot_197.toInt ≤ (mi 21).toInt := hp_204
                have hp_205 : 0 ≤ ntoken_199.toInt := hp_205
                have hp_206 : ntoken_199.toInt ≤ 4 := hp_206
                have hp_207 : ntoken_199.toInt ≤ 4 * nspot_197.toInt - 4 * nfrom_198.toInt := hp_207
                have hp_208 : nspot_57.toInt ≤ nfrom_198.toInt := hp_208
                refine lv_iload_n (pc := 111) E.1 E.2.1 dX12_readLaw_111 rfl (lv_at hl34 1 rfl) ?_
                refine lv_iconst (pc := 112) (v := 1) E.1 E.2.1 dX12_readLaw_112 (by decide +kernel) ?_
                refine lv_iadd (pc := 113) E.1 E.2.1 dX12_readLaw_113 ?_
                refine lv_topi (fun v_209 ev_209 => ?_)
                have hv_209 : v_209.toInt = x_6.toInt + 1 := by rw [ev_209]; exact addE rfl (by decide +kernel) (by omega)
                refine lv_istore_n (pc := 114) (lv' := [(1, .int v_209), (2, .int v_33), (0, .ref M)]) E.1 E.2.1 dX12_readLaw_114 rfl hl34 (by decide) rfl (fun ls hl210 => ?_)
                refine lv_goto (pc := 115) (tgt := 2) E.1 E.2.1 dX12_readLaw_115 (by decide) ?_
                exact ih_22 v_209 nspot_197 nfrom_198 ntoken_199 nvalue_200 ncodes_63 nreadFault_64 nreadPlace_65 x_14 x_15 gop_61 garg_62 g_18 g_50 g_83 g_182 _ _ _ ⟨hp_202, hp_203, hp_204, hp_205, hp_206, hp_207, hp_73, (by show ncodes_63.toInt ≤ nfrom_198.toInt; omega), hi_21_8, hi_21_9, (by show 0 ≤ v_209.toInt; omega), (by show v_209.toInt ≤ 16; omega), (LW_step hi_21_12 eg_50 eg_83 eg_182 (by omega) (by omega) (by omega) (by omega) (by omega) hp_77 (Or.inl ⟨rfl, rfl, rfl⟩) (by omega) (by omega) (by have q := hp_77.1; omega) (by omega) (by omega)), (show LW 0 0 gop_61 garg_62 g_50 g_83 g_182 ((mf 27) 0).toInt 400 from hlk_184), (show LW 16 400 gop_61 garg_62 g_50 g_83 g_182 ((mf 27) 1).toInt 400 from hlk_185)⟩ (by omega) hw201 (lv_sub hl210 [0, 2] rfl)
              · skip
                refine lv_if_ne (pc := 98) (tgt := 107) E.1 E.2.1 dX12_readLaw_98 (by decide) (fun c_211 => absurd (meqE (a := 0) (b := 0) (by decide +kernel) (by decide +kernel) (by omega)) c_211) (fun _ => ?_)
                refine lv_aload_n (pc := 101) E.1 E.2.1 dX12_readLaw_101 rfl (lv_at hl34 2 rfl) ?_
                refine lv_iconst (pc := 102) (v := 1) E.1 E.2.1 dX12_readLaw_102 (by decide +kernel) ?_
                refine cm_i (pc := 103) hw189 (rn_M (As := [.int 1]) (rest := []) E hw189 (s_errs2 l D cI cJ _ M mr (upd (upd (upd (upd (upd (upd (upd (upd (upd mi 22 nspot_57) 23 nfrom_58) 24 ntoken_59) 25 nvalue_60) 34 ncodes_63) 35 x_15) 37 x_14) 38 nreadFault_64) 39 nreadPlace_65) (va_up (va_up (va_up (va_up (va_up (va_up mf 28 g_50) 29 g_83) 30 g_182) 31 gop_61) 32 garg_62) 36 g_18) mg 1) (gdV q_1698 q_1700 q_60 q_162 q_1701) hdV_X12_errs ⟨rfl, rfl⟩ ⟨(Nat.le_of_ble_eq_true rfl), (Nat.le_of_ble_eq_true rfl)⟩ ⟨(Nat.le_of_ble_eq_true rfl), (Nat.le_of_ble_eq_true rfl)⟩ 12 rfl rfl rfl rfl hl34.1 rfl (Nat.le_of_ble_eq_true rfl) dX12_readLaw_103) (fun r_213 u_212 H1 locs hp hw214 => ?_)
                obtain ⟨nreadFault_215, nreadPlace_216⟩ := u_212
                generalize H1 = H at hw214 ⊢
                have hw217 : WD D A s.heap (MW cI cJ M mr (upd (upd (upd (upd (upd (upd (upd (upd (upd mi 22 nspot_57) 23 nfrom_58) 24 ntoken_59) 25 nvalue_60) 34 ncodes_63) 35 x_15) 37 x_14) 38 nreadFault_215) 39 nreadPlace_216) (va_up (va_up (va_up (va_up (va_up (va_up mf 28 g_50) 29 g_83) 30 g_182) 31 gop_61) 32 garg_62) 36 g_18) mg) H locs := hw214
                have hp_218 := hp
                rcases hp_218 with rfl
                · skip
                  exact em_i (w1 := (fun (u : Int32 × Int32 × Int32 × Int32 × (Nat → Int32) × (Nat → Int32) × Int32 × Int32 × Int32 × (Nat → Int32) × Int32 × Int32 × (Nat → Int32) × (Nat → Int32) × (Nat → Int32)) => (MW cI cJ M mr (upd (upd (upd (upd (upd (upd (upd (upd (upd mi 22 u.1) 23 u.2.1) 24 u.2.2.1) 25 u.2.2.2.1) 34 u.2.2.2.2.2.2.1) 38 u.2.2.2.2.2.2.2.1) 39 u.2.2.2.2.2.2.2.2.1) 37 u.2.2.2.2.2.2.2.2.2.2.1) 35 u.2.2.2.2.2.2.2.2.2.2.2.1) (va_up (va_up (va_up (va_up (va_up (va_up mf 31 u.2.2.2.2.1) 32 u.2.2.2.2.2.1) 36 u.2.2.2.2.2.2.2.2.2.1) 28 u.2.2.2.2.2.2.2.2.2.2.2.2.1) 29 u.2.2.2.2.2.2.2.2.2.2.2.2.2.1) 30 u.2.2.2.2.2.2.2.2.2.2.2.2.2.2) mg))) E hr hlk (nspot_57, nfrom_58, ntoken_59, nvalue_60, gop_61, garg_62, ncodes_63, nreadFault_215, nreadPlace_216, g_18, x_14, x_15, g_50, g_83, g_182) hw217 ⟨hp_67, hp_68, hp_69, hp_70, hp_71, hp_72, hp_73, hp_74, hi_21_8, hi_21_9, hlk_184, hlk_185, (show (0 ≤ ((-1) : Int32).toInt → LW 32 800 gop_61 garg_62 g_50 g_83 g_182 ((-1) : Int32).toInt ncodes_63.toInt) from (fun h => absurd h (by decide +kernel))), (Or.inl rfl)⟩ (Nat.le_of_ble_eq_true rfl) (Nat.le_of_ble_eq_true rfl) dX12_readLaw_106
        · skip
          have hc_32 := eqE (a := x_6.toInt) (b := 16) rfl (by decide +kernel) c_32
          refine lv_aload_n (pc := 15) E.1 E.2.1 dX12_readLaw_15 rfl (lv_at hl24 1 rfl) ?_
          refine lv_iconst (pc := 16) (v := 3) E.1 E.2.1 dX12_readLaw_16 (by decide +kernel) ?_
          refine cm_i (pc := 17) hw28 (rn_M (As := [.int 3]) (rest := []) E hw28 (s_errs2 l D cI cJ _ M mr (upd (upd (upd (upd (upd (upd (upd (upd (upd mi 22 x_7) 23 x_8) 24 x_9) 25 x_10) 34 x_11) 35 x_15) 37 x_14) 38 x_12) 39 x_13) (va_up (va_up (va_up (va_up (va_up (va_up mf 28 g_19) 29 g_20) 30 g_21) 31 g_16) 32 g_17) 36 g_18) mg 3) (gdV q_1698 q_1700 q_60 q_162 q_1701) hdV_X12_errs ⟨rfl, rfl⟩ ⟨(Nat.le_of_ble_eq_true rfl), (Nat.le_of_ble_eq_true rfl)⟩ ⟨(Nat.le_of_ble_eq_true rfl), (Nat.le_of_ble_eq_true rfl)⟩ 12 rfl rfl rfl rfl hl24.1 rfl (Nat.le_of_ble_eq_true rfl) dX12_readLaw_17) (fun r_220 u_219 H1 locs hp hw221 => ?_)
          obtain ⟨nreadFault_222, nreadPlace_223⟩ := u_219
          generalize H1 = H at hw221 ⊢
          have hw224 : WD D A s.heap (MW cI cJ M mr (upd (upd (upd (upd (upd (upd (upd (upd (upd mi 22 x_7) 23 x_8) 24 x_9) 25 x_10) 34 x_11) 35 x_15) 37 x_14) 38 nreadFault_222) 39 nreadPlace_223) (va_up (va_up (va_up (va_up (va_up (va_up mf 28 g_19) 29 g_20) 30 g_21) 31 g_16) 32 g_17) 36 g_18) mg) H locs := hw221
          have hp_225 := hp
          rcases hp_225 with rfl
          · skip
            exact em_i (w1 := (fun (u : Int32 × Int32 × Int32 × Int32 × (Nat → Int32) × (Nat → Int32) × Int32 × Int32 × Int32 × (Nat → Int32) × Int32 × Int32 × (Nat → Int32) × (Nat → Int32) × (Nat → Int32)) => (MW cI cJ M mr (upd (upd (upd (upd (upd (upd (upd (upd (upd mi 22 u.1) 23 u.2.1) 24 u.2.2.1) 25 u.2.2.2.1) 34 u.2.2.2.2.2.2.1) 38 u.2.2.2.2.2.2.2.1) 39 u.2.2.2.2.2.2.2.2.1) 37 u.2.2.2.2.2.2.2.2.2.2.1) 35 u.2.2.2.2.2.2.2.2.2.2.2.1) (va_up (va_up (va_up (va_up (va_up (va_up mf 31 u.2.2.2.2.1) 32 u.2.2.2.2.2.1) 36 u.2.2.2.2.2.2.2.2.2.1) 28 u.2.2.2.2.2.2.2.2.2.2.2.2.1) 29 u.2.2.2.2.2.2.2.2.2.2.2.2.2.1) 30 u.2.2.2.2.2.2.2.2.2.2.2.2.2.2) mg))) E hr hlk (x_7, x_8, x_9, x_10, g_16, g_17, x_11, nreadFault_222, nreadPlace_223, g_18, x_14, x_15, g_19, g_20, g_21) hw224 ⟨hi_21_0, hi_21_1, hi_21_2, hi_21_3, hi_21_4, hi_21_5, hi_21_6, hi_21_7, hi_21_8, hi_21_9, hi_21_13, hi_21_14, (show (0 ≤ ((-1) : Int32).toInt → LW 32 800 g_16 g_17 g_19 g_20 g_21 ((-1) : Int32).toInt x_11.toInt) from (fun h => absurd h (by decide +kernel))), (Or.inl rfl)⟩ (Nat.le_of_ble_eq_true rfl) (Nat.le_of_ble_eq_true rfl) dX12_readLaw_20
      · skip
        refine lv_if_eq (pc := 6) (tgt := 118) E.1 E.2.1 dX12_readLaw_6 (by decide) (fun _ => ?_) (fun c_226 => absurd (meqE (a := 0) (b := 0) (by decide +kernel) (by decide +kernel) (by omega)) c_226)
        refine lv_aload_n (pc := 118) E.1 E.2.1 dX12_readLaw_118 rfl (lv_at hl24 1 rfl) ?_
        refine x_get (pc := 119) (T := TX12) (N := 70) (ci := 12) (v := .int x_9) E hw28 inX12 0 24 q_1423 rfl rfl (by decide) rfl rfl dX12_readLaw_119 ?_
        refine lv_if_ne (pc := 122) (tgt := 129) E.1 E.2.1 dX12_readLaw_122 (by decide) (fun c_227 => ?_) (fun c_227 => ?_)
        · skip
          have hc_227 := neE (a := x_9.toInt) (b := 0) rfl (by decide +kernel) c_227
          refine lv_aload_n (pc := 129) E.1 E.2.1 dX12_readLaw_129 rfl (lv_at hl24 1 rfl) ?_
          refine lv_iconst (pc := 130) (v := 1) E.1 E.2.1 dX12_readLaw_130 (by decide +kernel) ?_
          refine cm_i (pc := 131) hw28 (rn_M (As := [.int 1]) (rest := []) E hw28 (s_errs2 l D cI cJ _ M mr (upd (upd (upd (upd (upd (upd (upd (upd (upd mi 22 x_7) 23 x_8) 24 x_9) 25 x_10) 34 x_11) 35 x_15) 37 x_14) 38 x_12) 39 x_13) (va_up (va_up (va_up (va_up (va_up (va_up mf 28 g_19) 29 g_20) 30 g_21) 31 g_16) 32 g_17) 36 g_18) mg 1) (gdV q_1698 q_1700 q_60 q_162 q_1701) hdV_X12_errs ⟨rfl, rfl⟩ ⟨(Nat.le_of_ble_eq_true rfl), (Nat.le_of_ble_eq_true rfl)⟩ ⟨(Nat.le_of_ble_eq_true rfl), (Nat.le_of_ble_eq_true rfl)⟩ 12 rfl rfl rfl rfl hl24.1 rfl (Nat.le_of_ble_eq_true rfl) dX12_readLaw_131) (fun r_229 u_228 H1 locs hp hw230 => ?_)
          obtain ⟨nreadFault_231, nreadPlace_232⟩ := u_228
          generalize H1 = H at hw230 ⊢
          have hw233 : WD D A s.heap (MW cI cJ M mr (upd (upd (upd (upd (upd (upd (upd (upd (upd mi 22 x_7) 23 x_8) 24 x_9) 25 x_10) 34 x_11) 35 x_15) 37 x_14) 38 nreadFault_231) 39 nreadPlace_232) (va_up (va_up (va_up (va_up (va_up (va_up mf 28 g_19) 29 g_20) 30 g_21) 31 g_16) 32 g_17) 36 g_18) mg) H locs := hw230
          have hp_234 := hp
          rcases hp_234 with rfl
          · skip
            exact em_i (w1 := (fun (u : Int32 × Int32 × Int32 × Int32 × (Nat → Int32) × (Nat → Int32) × Int32 × Int32 × Int32 × (Nat → Int32) × Int32 × Int32 × (Nat → Int32) × (Nat → Int32) × (Nat → Int32)) => (MW cI cJ M mr (upd (upd (upd (upd (upd (upd (upd (upd (upd mi 22 u.1) 23 u.2.1) 24 u.2.2.1) 25 u.2.2.2.1) 34 u.2.2.2.2.2.2.1) 38 u.2.2.2.2.2.2.2.1) 39 u.2.2.2.2.2.2.2.2.1) 37 u.2.2.2.2.2.2.2.2.2.2.1) 35 u.2.2.2.2.2.2.2.2.2.2.2.1) (va_up (va_up (va_up (va_up (va_up (va_up mf 31 u.2.2.2.2.1) 32 u.2.2.2.2.2.1) 36 u.2.2.2.2.2.2.2.2.2.1) 28 u.2.2.2.2.2.2.2.2.2.2.2.2.1) 29 u.2.2.2.2.2.2.2.2.2.2.2.2.2.1) 30 u.2.2.2.2.2.2.2.2.2.2.2.2.2.2) mg))) E hr hlk (x_7, x_8, x_9, x_10, g_16, g_17, x_11, nreadFault_231, nreadPlace_232, g_18, x_14, x_15, g_19, g_20, g_21) hw233 ⟨hi_21_0, hi_21_1, hi_21_2, hi_21_3, hi_21_4, hi_21_5, hi_21_6, hi_21_7, hi_21_8, hi_21_9, hi_21_13, hi_21_14, (show (0 ≤ ((-1) : Int32).toInt → LW 32 800 g_16 g_17 g_19 g_20 g_21 ((-1) : Int32).toInt x_11.toInt) from (fun h => absurd h (by decide +kernel))), (Or.inl rfl)⟩ (Nat.le_of_ble_eq_true rfl) (Nat.le_of_ble_eq_true rfl) dX12_readLaw_134
        · skip
          have hc_227 := eqE (a := x_9.toInt) (b := 0) rfl (by decide +kernel) c_227
          refine lv_iload_n (pc := 125) E.1 E.2.1 dX12_readLaw_125 rfl (lv_at hl24 0 rfl) ?_
          refine lv_goto (pc := 126) (tgt := 134) E.1 E.2.1 dX12_readLaw_126 (by decide) ?_
          exact em_i (w1 := (fun (u : Int32 × Int32 × Int32 × Int32 × (Nat → Int32) × (Nat → Int32) × Int32 × Int32 × Int32 × (Nat → Int32) × Int32 × Int32 × (Nat → Int32) × (Nat → Int32) × (Nat → Int32)) => (MW cI cJ M mr (upd (upd (upd (upd (upd (upd (upd (upd (upd mi 22 u.1) 23 u.2.1) 24 u.2.2.1) 25 u.2.2.2.1) 34 u.2.2.2.2.2.2.1) 38 u.2.2.2.2.2.2.2.1) 39 u.2.2.2.2.2.2.2.2.1) 37 u.2.2.2.2.2.2.2.2.2.2.1) 35 u.2.2.2.2.2.2.2.2.2.2.2.1) (va_up (va_up (va_up (va_up (va_up (va_up mf 31 u.2.2.2.2.1) 32 u.2.2.2.2.2.1) 36 u.2.2.2.2.2.2.2.2.2.1) 28 u.2.2.2.2.2.2.2.2.2.2.2.2.1) 29 u.2.2.2.2.2.2.2.2.2.2.2.2.2.1) 30 u.2.2.2.2.2.2.2.2.2.2.2.2.2.2) mg))) E hr hlk (x_7, x_8, x_9, x_10, g_16, g_17, x_11, x_12, x_13, g_18, x_14, x_15, g_19, g_20, g_21) hw28 ⟨hi_21_0, hi_21_1, hi_21_2, hi_21_3, hi_21_4, hi_21_5, hi_21_6, hi_21_7, hi_21_8, hi_21_9, hi_21_13, hi_21_14, (show (0 ≤ (x_6 : Int32).toInt → LW 32 800 g_16 g_17 g_19 g_20 g_21 (x_6 : Int32).toInt x_11.toInt) from (fun _ => hi_21_12)), (Or.inr (⟨hi_21_10, hi_21_11⟩))⟩ (Nat.le_of_ble_eq_true rfl) (Nat.le_of_ble_eq_true rfl) dX12_readLaw_134
  exact loop_5 (Int.toNat ((mi 21).toInt - (mi 23).toInt) + 1) 0 (mi 22) (mi 23) (mi 24) (mi 25) (mi 34) (mi 38) (mi 39) (mi 37) (mi 35) (mf 31) (mf 32) (mf 36) (mf 28) (mf 29) (mf 30) _ _ _ ⟨h0, h1, h2, h4, h5, h6, h8, h9, h10.1, h10.2, (by show 0 ≤ (0 : Int32).toInt; have k_0 : (0 : Int32).toInt = 0 := (by decide +kernel); omega), (by show (0 : Int32).toInt ≤ 16; have k_0 : (0 : Int32).toInt = 0 := (by decide +kernel); omega), (LW_nil (by decide +kernel)), (show LW 0 0 (mf 31) (mf 32) (mf 28) (mf 29) (mf 30) ((mf 27) 0).toInt 400 from lf_law0), (show LW 16 400 (mf 31) (mf 32) (mf 28) (mf 29) (mf 30) ((mf 27) 1).toInt 400 from lf_law1)⟩ (by have k_0 : (0 : Int32).toInt = 0 := (by decide +kernel); omega) hw1 (lv_sub hl4 [0, 1] rfl)

set_option maxHeartbeats 4000000 in
set_option maxRecDepth 100000 in
theorem s_takesLaw0 (l : Launch) (D : va_G) (cI cJ : ClassId) (sz M : Nat) (mr : Nat → Nat) (mi : Nat → Int32) (mf : Nat → Nat → Int32) (mg : Nat → Nat → Int64) (z_lines : Int32) (h0 : (mi 33).toInt = 0) (h1 : 0 ≤ z_lines.toInt ∧ z_lines.toInt ≤ 16) (h2 : 0 ≤ (mi 34).toInt ∧ (mi 34).toInt ≤ 400) (h3 : 0 ≤ ((mf 27) 0).toInt) (h4 : ((mf 27) 0).toInt ≤ 16) (h5 : 0 ≤ ((mf 27) 1).toInt) (h6 : ((mf 27) 1).toInt ≤ 16) (lf_law1 : LW 16 400 (mf 31) (mf 32) (mf 28) (mf 29) (mf 30) ((mf 27) 1).toInt 400) (x_lw : LW 32 800 (mf 31) (mf 32) (mf 28) (mf 29) (mf 30) z_lines.toInt (mi 34).toInt) : Met l yX12_takesLaw (Cond.code yX12_takesLaw cX12_takesLaw 3 none :: GW) ({ frames := 1, cells := 0, slots := 0, locals := 40 } : Room) (va_Pc [.ref M, .int z_lines] (PW D cI cJ sz (MW cI cJ M mr mi mf mg) xT)) (va_Qv (fun (u : (Nat → Int32) × (Nat → Int32) × (Nat → Int32) × (Nat → Int32) × (Nat → Int32) × (Nat → Int32)) => ((u.2.2.2.2.2 0).toInt = z_lines.toInt) ∧ ((u.2.2.2.2.2 1).toInt = ((mf 27) 1).toInt) ∧ (LW 0 0 u.2.2.2.1 u.2.2.2.2.1 u.1 u.2.1 u.2.2.1 (u.2.2.2.2.2 0).toInt 400) ∧ (LW 16 400 u.2.2.2.1 u.2.2.2.2.1 u.1 u.2.1 u.2.2.1 (u.2.2.2.2.2 1).toInt 400)) (fun u => QW D cI cJ (va_A (MW cI cJ M mr mi mf mg) sz) ((fun (u : (Nat → Int32) × (Nat → Int32) × (Nat → Int32) × (Nat → Int32) × (Nat → Int32) × (Nat → Int32)) => (MW cI cJ M mr mi (va_up (va_up (va_up (va_up (va_up (va_up mf 28 u.1) 29 u.2.1) 30 u.2.2.1) 31 u.2.2.2.1) 32 u.2.2.2.2.1) 27 u.2.2.2.2.2) mg)) u)) (va_A (MW cI cJ M mr mi mf mg) sz)) 0 0 (va_A (MW cI cJ M mr mi mf mg) sz) := by
  refine mk_met (y := yX12_takesLaw) (bytes := cX12_takesLaw) (maxL := 3) (avs := [.ref M, .int z_lines]) (WS := (MW cI cJ M mr mi mf mg)) (Qf := fun A => va_Qv (fun (u : (Nat → Int32) × (Nat → Int32) × (Nat → Int32) × (Nat → Int32) × (Nat → Int32) × (Nat → Int32)) => ((u.2.2.2.2.2 0).toInt = z_lines.toInt) ∧ ((u.2.2.2.2.2 1).toInt = ((mf 27) 1).toInt) ∧ (LW 0 0 u.2.2.2.1 u.2.2.2.2.1 u.1 u.2.1 u.2.2.1 (u.2.2.2.2.2 0).toInt 400) ∧ (LW 16 400 u.2.2.2.1 u.2.2.2.2.1 u.1 u.2.1 u.2.2.1 (u.2.2.2.2.2 1).toInt 400)) (fun u => QW D cI cJ A ((fun (u : (Nat → Int32) × (Nat → Int32) × (Nat → Int32) × (Nat → Int32) × (Nat → Int32) × (Nat → Int32)) => (MW cI cJ M mr mi (va_up (va_up (va_up (va_up (va_up (va_up mf 28 u.1) 29 u.2.1) 30 u.2.2.1) 31 u.2.2.2.1) 32 u.2.2.2.2.1) 27 u.2.2.2.2.2) mg)) u)) A) (by decide) (Nat.le_of_ble_eq_true rfl) ?_
  intro p e s m below meth c A ls E hr hlk hnm hX hw1 hl2
  have hl3 : lv_has ls 3 [(0, .ref M), (1, .int z_lines)] := hl2
  refine lv_iconst (pc := 0) (v := 0) E.1 E.2.1 dX12_takesLaw_0 (by decide +kernel) ?_
  refine lv_istore_n (pc := 1) (lv' := [(2, .int 0), (0, .ref M), (1, .int z_lines)]) E.1 E.2.1 dX12_takesLaw_1 rfl hl3 (by decide) rfl (fun ls hl4 => ?_)
  have loop_5 : ∀ (k : Nat) (x_6 : Int32) (g_7 : Nat → Int32) (g_8 : Nat → Int32) (g_9 : Nat → Int32) (H : Heap) (locs : List Loc) (ls : Array Slot), (0 ≤ x_6.toInt) ∧ (x_6.toInt ≤ z_lines.toInt) ∧ (MV g_7 (mf 28) 0 32 x_6.toInt) ∧ (MV g_8 (mf 29) 0 32 x_6.toInt) ∧ (MV g_9 (mf 30) 0 32 x_6.toInt) → z_lines.toInt - x_6.toInt < (k : Int) → WD D A s.heap (MW cI cJ M mr mi (va_up (va_up (va_up mf 28 g_7) 29 g_8) 30 g_9) mg) H locs → lv_has ls 3 [(2, .int x_6), (0, .ref M), (1, .int z_lines)] → W p l e ({ frames := 1, cells := 0, slots := 0, locals := 40 } : Room) s m ([.ref M, .int z_lines] : List Value).toArray below meth c H locs 0 0 (MQ below (va_Qv (fun (u : (Nat → Int32) × (Nat → Int32) × (Nat → Int32) × (Nat → Int32) × (Nat → Int32) × (Nat → Int32)) => ((u.2.2.2.2.2 0).toInt = z_lines.toInt) ∧ ((u.2.2.2.2.2 1).toInt = ((mf 27) 1).toInt) ∧ (LW 0 0 u.2.2.2.1 u.2.2.2.2.1 u.1 u.2.1 u.2.2.1 (u.2.2.2.2.2 0).toInt 400) ∧ (LW 16 400 u.2.2.2.1 u.2.2.2.2.1 u.1 u.2.1 u.2.2.1 (u.2.2.2.2.2 1).toInt 400)) (fun u => QW D cI cJ A ((fun (u : (Nat → Int32) × (Nat → Int32) × (Nat → Int32) × (Nat → Int32) × (Nat → Int32) × (Nat → Int32)) => (MW cI cJ M mr mi (va_up (va_up (va_up (va_up (va_up (va_up mf 28 u.1) 29 u.2.1) 30 u.2.2.1) 31 u.2.2.2.1) 32 u.2.2.2.2.1) 27 u.2.2.2.2.2) mg)) u)) A) ([.ref M, .int z_lines] : List Value).toArray s 0 0 A) (F0 m 2 ls []) := by
    intro k
    induction k with
    | zero =>
      intro x_6 g_7 g_8 g_9 _ _ _ hinv hm
      obtain ⟨hi_9_0, hi_9_1, hi_9_2, hi_9_3, hi_9_4⟩ := hinv
      exact absurd hm (by omega)
    | succ k ih_10 =>
      intro x_6 g_7 g_8 g_9 H locs ls hinv hm hw11 hl12
      obtain ⟨hi_9_0, hi_9_1, hi_9_2, hi_9_3, hi_9_4⟩ := hinv
      refine lv_iload_n (pc := 2) E.1 E.2.1 dX12_takesLaw_2 rfl (lv_at hl12 0 rfl) ?_
      refine lv_iload_n (pc := 3) E.1 E.2.1 dX12_takesLaw_3 rfl (lv_at hl12 2 rfl) ?_
      refine lv_icmp_ge (pc := 4) (tgt := 82) E.1 E.2.1 dX12_takesLaw_4 (by decide) (fun c_13 => ?_) (fun c_13 => ?_)
      · skip
        have hc_13 := leE (a := z_lines.toInt) (b := x_6.toInt) rfl rfl c_13
        have hm_14 : MV g_7 (mf 28) 0 32 z_lines.toInt := by rw [show z_lines.toInt = x_6.toInt from by omega]; exact hi_9_2
        have hm_15 : MV g_8 (mf 29) 0 32 z_lines.toInt := by rw [show z_lines.toInt = x_6.toInt from by omega]; exact hi_9_3
        have hm_16 : MV g_9 (mf 30) 0 32 z_lines.toInt := by rw [show z_lines.toInt = x_6.toInt from by omega]; exact hi_9_4
        refine lv_iconst (pc := 82) (v := 0) E.1 E.2.1 dX12_takesLaw_82 (by decide +kernel) ?_
        refine lv_istore_n (pc := 83) (lv' := [(2, .int 0), (0, .ref M), (1, .int z_lines)]) E.1 E.2.1 dX12_takesLaw_83 rfl hl12 (by decide) rfl (fun ls hl17 => ?_)
        have loop_18 : ∀ (k : Nat) (x_19 : Int32) (g_20 : Nat → Int32) (g_21 : Nat → Int32) (H : Heap) (locs : List Loc) (ls : Array Slot), (0 ≤ x_19.toInt) ∧ (x_19.toInt ≤ (mi 34).toInt) ∧ (MV g_20 (mf 31) 0 800 x_19.toInt) ∧ (MV g_21 (mf 32) 0 800 x_19.toInt) → (mi 34).toInt - x_19.toInt < (k : Int) → WD D A s.heap (MW cI cJ M mr mi (va_up (va_up (va_up (va_up (va_up mf 28 g_7) 29 g_8) 30 g_9) 31 g_20) 32 g_21) mg) H locs → lv_has ls 3 [(2, .int x_19), (0, .ref M), (1, .int z_lines)] → W p l e ({ frames := 1, cells := 0, slots := 0, locals := 40 } : Room) s m ([.ref M, .int z_lines] : List Value).toArray below meth c H locs 0 0 (MQ below (va_Qv (fun (u : (Nat → Int32) × (Nat → Int32) × (Nat → Int32) × (Nat → Int32) × (Nat → Int32) × (Nat → Int32)) => ((u.2.2.2.2.2 0).toInt = z_lines.toInt) ∧ ((u.2.2.2.2.2 1).toInt = ((mf 27) 1).toInt) ∧ (LW 0 0 u.2.2.2.1 u.2.2.2.2.1 u.1 u.2.1 u.2.2.1 (u.2.2.2.2.2 0).toInt 400) ∧ (LW 16 400 u.2.2.2.1 u.2.2.2.2.1 u.1 u.2.1 u.2.2.1 (u.2.2.2.2.2 1).toInt 400)) (fun u => QW D cI cJ A ((fun (u : (Nat → Int32) × (Nat → Int32) × (Nat → Int32) × (Nat → Int32) × (Nat → Int32) × (Nat → Int32)) => (MW cI cJ M mr mi (va_up (va_up (va_up (va_up (va_up (va_up mf 28 u.1) 29 u.2.1) 30 u.2.2.1) 31 u.2.2.2.1) 32 u.2.2.2.2.1) 27 u.2.2.2.2.2) mg)) u)) A) ([.ref M, .int z_lines] : List Value).toArray s 0 0 A) (F0 m 84 ls []) := by
          intro k
          induction k with
          | zero =>
            intro x_19 g_20 g_21 _ _ _ hinv hm
            obtain ⟨hi_21_0, hi_21_1, hi_21_2, hi_21_3⟩ := hinv
            exact absurd hm (by omega)
          | succ k ih_22 =>
            intro x_19 g_20 g_21 H locs ls hinv hm hw23 hl24
            obtain ⟨hi_21_0, hi_21_1, hi_21_2, hi_21_3⟩ := hinv
            refine lv_iload_n (pc := 84) E.1 E.2.1 dX12_takesLaw_84 rfl (lv_at hl24 0 rfl) ?_
            refine lv_aload_n (pc := 85) E.1 E.2.1 dX12_takesLaw_85 rfl (lv_at hl24 1 rfl) ?_
            refine x_get (pc := 86) (T := TX12) (N := 70) (ci := 12) (v := .int (mi 34)) E hw23 inX12 0 34 q_1433 rfl rfl (by decide) rfl rfl dX12_takesLaw_86 ?_
            refine lv_icmp_ge (pc := 89) (tgt := 148) E.1 E.2.1 dX12_takesLaw_89 (by decide) (fun c_25 => ?_) (fun c_25 => ?_)
            · skip
              have hc_25 := leE (a := (mi 34).toInt) (b := x_19.toInt) rfl rfl c_25
              have hm_26 : MV g_20 (mf 31) 0 800 (mi 34).toInt := by rw [show (mi 34).toInt = x_19.toInt from by omega]; exact hi_21_2
              have hm_27 : MV g_21 (mf 32) 0 800 (mi 34).toInt := by rw [show (mi 34).toInt = x_19.toInt from by omega]; exact hi_21_3
              refine lv_aload_n (pc := 148) E.1 E.2.1 dX12_takesLaw_148 rfl (lv_at hl24 1 rfl) ?_
              refine x_get (pc := 149) (T := TX12) (N := 70) (ci := 12) (v := .ref (mr 27)) E hw23 inX12 0 27 q_1426 rfl rfl (by decide) rfl rfl dX12_takesLaw_149 ?_
              refine lv_aload_n (pc := 152) E.1 E.2.1 dX12_takesLaw_152 rfl (lv_at hl24 1 rfl) ?_
              refine x_get (pc := 153) (T := TX12) (N := 70) (ci := 12) (v := .int (mi 33)) E hw23 inX12 0 33 q_1432 rfl rfl (by decide) rfl rfl dX12_takesLaw_153 ?_
              refine lv_iload_n (pc := 156) E.1 E.2.1 dX12_takesLaw_156 rfl (lv_at hl24 2 rfl) ?_
              refine x_iastG (pc := 157) (f := (mf 27)) (wf := fun g => (MW cI cJ M mr mi (va_up (va_up (va_up (va_up (va_up (va_up mf 27 g) 28 g_7) 29 g_8) 30 g_9) 31 g_20) 32 g_21) mg)) E hw23 14 rfl (inbE (a := (mi 33).toInt) rfl (by omega)) (fun _ => rfl) dX12_takesLaw_157 (fun g_28 H locs eg_28 hw29 => ?_)
              have ht_30 : (g_28 0).toInt = (z_lines : Int32).toInt := by rw [eg_28, show (mi 33).toNatClampNeg = 0 from (by have q9 := idxI (x := (mi 33)) (by omega); omega), pk_us]
              have ht_31 : (g_28 1).toInt = ((mf 27) 1).toInt := by rw [eg_28, pk_un (by have q9 := idxI (x := (mi 33)) (by omega); omega)]
              exact em_v (w1 := (fun (u : (Nat → Int32) × (Nat → Int32) × (Nat → Int32) × (Nat → Int32) × (Nat → Int32) × (Nat → Int32)) => (MW cI cJ M mr mi (va_up (va_up (va_up (va_up (va_up (va_up mf 28 u.1) 29 u.2.1) 30 u.2.2.1) 31 u.2.2.2.1) 32 u.2.2.2.2.1) 27 u.2.2.2.2.2) mg))) E hr hlk (g_7, g_8, g_9, g_20, g_21, g_28) hw29 ⟨(by show (g_28 0).toInt = z_lines.toInt; omega), (by show (g_28 1).toInt = ((mf 27) 1).toInt; omega), (show LW 0 0 g_20 g_21 g_7 g_8 g_9 (g_28 0).toInt 400 from (by rw [show (g_28 0).toInt = z_lines.toInt from by omega]; exact LW_move x_lw (by omega) (by omega) hm_14 hm_15 hm_16 hm_26 hm_27)), (show LW 16 400 g_20 g_21 g_7 g_8 g_9 (g_28 1).toInt 400 from (by rw [show (g_28 1).toInt = ((mf 27) 1).toInt from by omega]; exact LW_keep lf_law1 (by omega) hm_14 hm_15 hm_16 hm_26 hm_27 (by omega) (by omega)))⟩ (Nat.le_of_ble_eq_true rfl) (Nat.le_of_ble_eq_true rfl) dX12_takesLaw_158
            · skip
              have hc_25 := nleE (a := (mi 34).toInt) (b := x_19.toInt) rfl rfl c_25
              refine lv_aload_n (pc := 92) E.1 E.2.1 dX12_takesLaw_92 rfl (lv_at hl24 1 rfl) ?_
              refine x_get (pc := 93) (T := TX12) (N := 70) (ci := 12) (v := .ref (mr 31)) E hw23 inX12 0 31 q_1430 rfl rfl (by decide) rfl rfl dX12_takesLaw_93 ?_
              refine lv_sipush (pc := 96) (v := 400) E.1 E.2.1 dX12_takesLaw_96 (by decide +kernel) ?_
              refine lv_aload_n (pc := 99) E.1 E.2.1 dX12_takesLaw_99 rfl (lv_at hl24 1 rfl) ?_
              refine x_get (pc := 100) (T := TX12) (N := 70) (ci := 12) (v := .int (mi 33)) E hw23 inX12 0 33 q_1432 rfl rfl (by decide) rfl rfl dX12_takesLaw_100 ?_
              refine lv_imul (pc := 103) E.1 E.2.1 dX12_takesLaw_103 ?_
              refine lv_topi (fun v_32 ev_32 => ?_)
              have hv_32 : v_32.toInt = 400 * (mi 33).toInt := by rw [ev_32]; exact mulE (by decide +kernel) rfl (by omega)
              refine lv_iload_n (pc := 104) E.1 E.2.1 dX12_takesLaw_104 rfl (lv_at hl24 0 rfl) ?_
              refine lv_iadd (pc := 105) E.1 E.2.1 dX12_takesLaw_105 ?_
              refine lv_topi (fun v_33 ev_33 => ?_)
              have hv_33 : v_33.toInt = v_32.toInt + x_19.toInt := by rw [ev_33]; exact addE rfl rfl (by omega)
              refine lv_aload_n (pc := 106) E.1 E.2.1 dX12_takesLaw_106 rfl (lv_at hl24 1 rfl) ?_
              refine x_get (pc := 107) (T := TX12) (N := 70) (ci := 12) (v := .ref (mr 31)) E hw23 inX12 0 31 q_1430 rfl rfl (by decide) rfl rfl dX12_takesLaw_107 ?_
              refine lv_sipush (pc := 110) (v := 800) E.1 E.2.1 dX12_takesLaw_110 (by decide +kernel) ?_
              refine lv_iload_n (pc := 113) E.1 E.2.1 dX12_takesLaw_113 rfl (lv_at hl24 0 rfl) ?_
              refine lv_iadd (pc := 114) E.1 E.2.1 dX12_takesLaw_114 ?_
              refine lv_topi (fun v_34 ev_34 => ?_)
              have hv_34 : v_34.toInt = 800 + x_19.toInt := by rw [ev_34]; exact addE (by decide +kernel) rfl (by omega)
              refine x_iald (pc := 115) (f := g_20) E hw23 18 rfl (inbE (a := v_34.toInt) rfl (by omega)) dX12_takesLaw_115 ?_
              refine lv_topi (fun v_35 ev_35 => ?_)
              refine x_iastG (pc := 116) (f := g_20) (wf := fun g => (MW cI cJ M mr mi (va_up (va_up (va_up (va_up (va_up mf 28 g_7) 29 g_8) 30 g_9) 31 g) 32 g_21) mg)) E hw23 18 rfl (inbE (a := v_33.toInt) rfl (by omega)) (fun _ => rfl) dX12_takesLaw_116 (fun g_36 H locs eg_36 hw37 => ?_)
              refine lv_aload_n (pc := 117) E.1 E.2.1 dX12_takesLaw_117 rfl (lv_at hl24 1 rfl) ?_
              refine x_get (pc := 118) (T := TX12) (N := 70) (ci := 12) (v := .ref (mr 32)) E hw37 inX12 0 32 q_1431 rfl rfl (by decide) rfl rfl dX12_takesLaw_118 ?_
              refine lv_sipush (pc := 121) (v := 400) E.1 E.2.1 dX12_takesLaw_121 (by decide +kernel) ?_
              refine lv_aload_n (pc := 124) E.1 E.2.1 dX12_takesLaw_124 rfl (lv_at hl24 1 rfl) ?_
              refine x_get (pc := 125) (T := TX12) (N := 70) (ci := 12) (v := .int (mi 33)) E hw37 inX12 0 33 q_1432 rfl rfl (by decide) rfl rfl dX12_takesLaw_125 ?_
              refine lv_imul (pc := 128) E.1 E.2.1 dX12_takesLaw_128 ?_
              refine lv_topi (fun v_38 ev_38 => ?_)
              have hv_38 : v_38.toInt = 400 * (mi 33).toInt := by rw [ev_38]; exact mulE (by decide +kernel) rfl (by omega)
              refine lv_iload_n (pc := 129) E.1 E.2.1 dX12_takesLaw_129 rfl (lv_at hl24 0 rfl) ?_
              refine lv_iadd (pc := 130) E.1 E.2.1 dX12_takesLaw_130 ?_
              refine lv_topi (fun v_39 ev_39 => ?_)
              have hv_39 : v_39.toInt = v_38.toInt + x_19.toInt := by rw [ev_39]; exact addE rfl rfl (by omega)
              refine lv_aload_n (pc := 131) E.1 E.2.1 dX12_takesLaw_131 rfl (lv_at hl24 1 rfl) ?_
              refine x_get (pc := 132) (T := TX12) (N := 70) (ci := 12) (v := .ref (mr 32)) E hw37 inX12 0 32 q_1431 rfl rfl (by decide) rfl rfl dX12_takesLaw_132 ?_
              refine lv_sipush (pc := 135) (v := 800) E.1 E.2.1 dX12_takesLaw_135 (by decide +kernel) ?_
              refine lv_iload_n (pc := 138) E.1 E.2.1 dX12_takesLaw_138 rfl (lv_at hl24 0 rfl) ?_
              refine lv_iadd (pc := 139) E.1 E.2.1 dX12_takesLaw_139 ?_
              refine lv_topi (fun v_40 ev_40 => ?_)
              have hv_40 : v_40.toInt = 800 + x_19.toInt := by rw [ev_40]; exact addE (by decide +kernel) rfl (by omega)
              refine x_iald (pc := 140) (f := g_21) E hw37 19 rfl (inbE (a := v_40.toInt) rfl (by omega)) dX12_takesLaw_140 ?_
              refine lv_topi (fun v_41 ev_41 => ?_)
              refine x_iastG (pc := 141) (f := g_21) (wf := fun g => (MW cI cJ M mr mi (va_up (va_up (va_up (va_up (va_up mf 28 g_7) 29 g_8) 30 g_9) 31 g_36) 32 g) mg)) E hw37 19 rfl (inbE (a := v_39.toInt) rfl (by omega)) (fun _ => rfl) dX12_takesLaw_141 (fun g_42 H locs eg_42 hw43 => ?_)
              obtain ⟨v_44, ev_44⟩ : ∃ z : Int32, x_19 + Int32.ofInt (1) = z := ⟨_, rfl⟩
              have hv_44 : v_44.toInt = x_19.toInt + (1) := by rw [← ev_44]; exact incE rfl (by decide) (by omega)
              refine lv_iinc (pc := 142) (v := v_44) (lv' := [(2, .int v_44), (0, .ref M), (1, .int z_lines)]) E.1 E.2.1 dX12_takesLaw_142 hl24 (k := 0) rfl ev_44 (by decide) rfl (fun ls hl45 => ?_)
              refine lv_goto (pc := 145) (tgt := 84) E.1 E.2.1 dX12_takesLaw_145 (by decide) ?_
              exact ih_22 v_44 g_36 g_42 _ _ _ ⟨(by show 0 ≤ v_44.toInt; omega), (by show v_44.toInt ≤ (mi 34).toInt; omega), (MV_step (i := x_19) (j := v_44) (m := 400) hi_21_2 eg_36 ev_35 (by omega) (by omega) (by omega) (by omega) (by omega) (by omega)), (MV_step (i := x_19) (j := v_44) (m := 400) hi_21_3 eg_42 ev_41 (by omega) (by omega) (by omega) (by omega) (by omega) (by omega))⟩ (by omega) hw43 (lv_sub hl45 [0, 1, 2] rfl)
        exact loop_18 (Int.toNat ((mi 34).toInt - 0) + 1) 0 (mf 31) (mf 32) _ _ _ ⟨(by show 0 ≤ (0 : Int32).toInt; have k_0 : (0 : Int32).toInt = 0 := (by decide +kernel); omega), (by show (0 : Int32).toInt ≤ (mi 34).toInt; have k_0 : (0 : Int32).toInt = 0 := (by decide +kernel); omega), (MV_nil (by decide +kernel)), (MV_nil (by decide +kernel))⟩ (by have k_0 : (0 : Int32).toInt = 0 := (by decide +kernel); omega) hw11 (lv_sub hl17 [0, 1, 2] rfl)
      · skip
        have hc_13 := nleE (a := z_lines.toInt) (b := x_6.toInt) rfl rfl c_13
        refine lv_aload_n (pc := 7) E.1 E.2.1 dX12_takesLaw_7 rfl (lv_at hl12 1 rfl) ?_
        refine x_get (pc := 8) (T := TX12) (N := 70) (ci := 12) (v := .ref (mr 28)) E hw11 inX12 0 28 q_1427 rfl rfl (by decide) rfl rfl dX12_takesLaw_8 ?_
        refine lv_bipush (pc := 11) (v := 16) E.1 E.2.1 dX12_takesLaw_11 (by decide +kernel) ?_
        refine lv_aload_n (pc := 13) E.1 E.2.1 dX12_takesLaw_13 rfl (lv_at hl12 1 rfl) ?_
        refine x_get (pc := 14) (T := TX12) (N := 70) (ci := 12) (v := .int (mi 33)) E hw11 inX12 0 33 q_1432 rfl rfl (by decide) rfl rfl dX12_takesLaw_14 ?_
        refine lv_imul (pc := 17) E.1 E.2.1 dX12_takesLaw_17 ?_
        refine lv_topi (fun v_46 ev_46 => ?_)
        have hv_46 : v_46.toInt = 16 * (mi 33).toInt := by rw [ev_46]; exact mulE (by decide +kernel) rfl (by omega)
        refine lv_iload_n (pc := 18) E.1 E.2.1 dX12_takesLaw_18 rfl (lv_at hl12 0 rfl) ?_
        refine lv_iadd (pc := 19) E.1 E.2.1 dX12_takesLaw_19 ?_
        refine lv_topi (fun v_47 ev_47 => ?_)
        have hv_47 : v_47.toInt = v_46.toInt + x_6.toInt := by rw [ev_47]; exact addE rfl rfl (by omega)
        refine lv_aload_n (pc := 20) E.1 E.2.1 dX12_takesLaw_20 rfl (lv_at hl12 1 rfl) ?_
        refine x_get (pc := 21) (T := TX12) (N := 70) (ci := 12) (v := .ref (mr 28)) E hw11 inX12 0 28 q_1427 rfl rfl (by decide) rfl rfl dX12_takesLaw_21 ?_
        refine lv_bipush (pc := 24) (v := 32) E.1 E.2.1 dX12_takesLaw_24 (by decide +kernel) ?_
        refine lv_iload_n (pc := 26) E.1 E.2.1 dX12_takesLaw_26 rfl (lv_at hl12 0 rfl) ?_
        refine lv_iadd (pc := 27) E.1 E.2.1 dX12_takesLaw_27 ?_
        refine lv_topi (fun v_48 ev_48 => ?_)
        have hv_48 : v_48.toInt = 32 + x_6.toInt := by rw [ev_48]; exact addE (by decide +kernel) rfl (by omega)
        refine x_iald (pc := 28) (f := g_7) E hw11 15 rfl (inbE (a := v_48.toInt) rfl (by omega)) dX12_takesLaw_28 ?_
        refine lv_topi (fun v_49 ev_49 => ?_)
        refine x_iastG (pc := 29) (f := g_7) (wf := fun g => (MW cI cJ M mr mi (va_up (va_up (va_up mf 28 g) 29 g_8) 30 g_9) mg)) E hw11 15 rfl (inbE (a := v_47.toInt) rfl (by omega)) (fun _ => rfl) dX12_takesLaw_29 (fun g_50 H locs eg_50 hw51 => ?_)
        refine lv_aload_n (pc := 30) E.1 E.2.1 dX12_takesLaw_30 rfl (lv_at hl12 1 rfl) ?_
        refine x_get (pc := 31) (T := TX12) (N := 70) (ci := 12) (v := .ref (mr 29)) E hw51 inX12 0 29 q_1428 rfl rfl (by decide) rfl rfl dX12_takesLaw_31 ?_
        refine lv_bipush (pc := 34) (v := 16) E.1 E.2.1 dX12_takesLaw_34 (by decide +kernel) ?_
        refine lv_aload_n (pc := 36) E.1 E.2.1 dX12_takesLaw_36 rfl (lv_at hl12 1 rfl) ?_
        refine x_get (pc := 37) (T := TX12) (N := 70) (ci := 12) (v := .int (mi 33)) E hw51 inX12 0 33 q_1432 rfl rfl (by decide) rfl rfl dX12_takesLaw_37 ?_
        refine lv_imul (pc := 40) E.1 E.2.1 dX12_takesLaw_40 ?_
        refine lv_topi (fun v_52 ev_52 => ?_)
        have hv_52 : v_52.toInt = 16 * (mi 33).toInt := by rw [ev_52]; exact mulE (by decide +kernel) rfl (by omega)
        refine lv_iload_n (pc := 41) E.1 E.2.1 dX12_takesLaw_41 rfl (lv_at hl12 0 rfl) ?_
        refine lv_iadd (pc := 42) E.1 E.2.1 dX12_takesLaw_42 ?_
        refine lv_topi (fun v_53 ev_53 => ?_)
        have hv_53 : v_53.toInt = v_52.toInt + x_6.toInt := by rw [ev_53]; exact addE rfl rfl (by omega)
        refine lv_aload_n (pc := 43) E.1 E.2.1 dX12_takesLaw_43 rfl (lv_at hl12 1 rfl) ?_
        refine x_get (pc := 44) (T := TX12) (N := 70) (ci := 12) (v := .ref (mr 29)) E hw51 inX12 0 29 q_1428 rfl rfl (by decide) rfl rfl dX12_takesLaw_44 ?_
        refine lv_bipush (pc := 47) (v := 32) E.1 E.2.1 dX12_takesLaw_47 (by decide +kernel) ?_
        refine lv_iload_n (pc := 49) E.1 E.2.1 dX12_takesLaw_49 rfl (lv_at hl12 0 rfl) ?_
        refine lv_iadd (pc := 50) E.1 E.2.1 dX12_takesLaw_50 ?_
        refine lv_topi (fun v_54 ev_54 => ?_)
        have hv_54 : v_54.toInt = 32 + x_6.toInt := by rw [ev_54]; exact addE (by decide +kernel) rfl (by omega)
        refine x_iald (pc := 51) (f := g_8) E hw51 16 rfl (inbE (a := v_54.toInt) rfl (by omega)) dX12_takesLaw_51 ?_
        refine lv_topi (fun v_55 ev_55 => ?_)
        refine x_iastG (pc := 52) (f := g_8) (wf := fun g => (MW cI cJ M mr mi (va_up (va_up (va_up mf 28 g_50) 29 g) 30 g_9) mg)) E hw51 16 rfl (inbE (a := v_53.toInt) rfl (by omega)) (fun _ => rfl) dX12_takesLaw_52 (fun g_56 H locs eg_56 hw57 => ?_)
        refine lv_aload_n (pc := 53) E.1 E.2.1 dX12_takesLaw_53 rfl (lv_at hl12 1 rfl) ?_
        refine x_get (pc := 54) (T := TX12) (N := 70) (ci := 12) (v := .ref (mr 30)) E hw57 inX12 0 30 q_1429 rfl rfl (by decide) rfl rfl dX12_takesLaw_54 ?_
        refine lv_bipush (pc := 57) (v := 16) E.1 E.2.1 dX12_takesLaw_57 (by decide +kernel) ?_
        refine lv_aload_n (pc := 59) E.1 E.2.1 dX12_takesLaw_59 rfl (lv_at hl12 1 rfl) ?_
        refine x_get (pc := 60) (T := TX12) (N := 70) (ci := 12) (v := .int (mi 33)) E hw57 inX12 0 33 q_1432 rfl rfl (by decide) rfl rfl dX12_takesLaw_60 ?_
        refine lv_imul (pc := 63) E.1 E.2.1 dX12_takesLaw_63 ?_
        refine lv_topi (fun v_58 ev_58 => ?_)
        have hv_58 : v_58.toInt = 16 * (mi 33).toInt := by rw [ev_58]; exact mulE (by decide +kernel) rfl (by omega)
        refine lv_iload_n (pc := 64) E.1 E.2.1 dX12_takesLaw_64 rfl (lv_at hl12 0 rfl) ?_
        refine lv_iadd (pc := 65) E.1 E.2.1 dX12_takesLaw_65 ?_
        refine lv_topi (fun v_59 ev_59 => ?_)
        have hv_59 : v_59.toInt = v_58.toInt + x_6.toInt := by rw [ev_59]; exact addE rfl rfl (by omega)
        refine lv_aload_n (pc := 66) E.1 E.2.1 dX12_takesLaw_66 rfl (lv_at hl12 1 rfl) ?_
        refine x_get (pc := 67) (T := TX12) (N := 70) (ci := 12) (v := .ref (mr 30)) E hw57 inX12 0 30 q_1429 rfl rfl (by decide) rfl rfl dX12_takesLaw_67 ?_
        refine lv_bipush (pc := 70) (v := 32) E.1 E.2.1 dX12_takesLaw_70 (by decide +kernel) ?_
        refine lv_iload_n (pc := 72) E.1 E.2.1 dX12_takesLaw_72 rfl (lv_at hl12 0 rfl) ?_
        refine lv_iadd (pc := 73) E.1 E.2.1 dX12_takesLaw_73 ?_
        refine lv_topi (fun v_60 ev_60 => ?_)
        have hv_60 : v_60.toInt = 32 + x_6.toInt := by rw [ev_60]; exact addE (by decide +kernel) rfl (by omega)
        refine x_iald (pc := 74) (f := g_9) E hw57 17 rfl (inbE (a := v_60.toInt) rfl (by omega)) dX12_takesLaw_74 ?_
        refine lv_topi (fun v_61 ev_61 => ?_)
        refine x_iastG (pc := 75) (f := g_9) (wf := fun g => (MW cI cJ M mr mi (va_up (va_up (va_up mf 28 g_50) 29 g_56) 30 g) mg)) E hw57 17 rfl (inbE (a := v_59.toInt) rfl (by omega)) (fun _ => rfl) dX12_takesLaw_75 (fun g_62 H locs eg_62 hw63 => ?_)
        obtain ⟨v_64, ev_64⟩ : ∃ z : Int32, x_6 + Int32.ofInt (1) = z := ⟨_, rfl⟩
        have hv_64 : v_64.toInt = x_6.toInt + (1) := by rw [← ev_64]; exact incE rfl (by decide) (by omega)
        refine lv_iinc (pc := 76) (v := v_64) (lv' := [(2, .int v_64), (0, .ref M), (1, .int z_lines)]) E.1 E.2.1 dX12_takesLaw_76 hl12 (k := 0) rfl ev_64 (by decide) rfl (fun ls hl65 => ?_)
        refine lv_goto (pc := 79) (tgt := 2) E.1 E.2.1 dX12_takesLaw_79 (by decide) ?_
        exact ih_10 v_64 g_50 g_56 g_62 _ _ _ ⟨(by show 0 ≤ v_64.toInt; omega), (by show v_64.toInt ≤ z_lines.toInt; omega), (MV_step (i := x_6) (j := v_64) (m := 16) hi_9_2 eg_50 ev_49 (by omega) (by omega) (by omega) (by omega) (by omega) (by omega)), (MV_step (i := x_6) (j := v_64) (m := 16) hi_9_3 eg_56 ev_55 (by omega) (by omega) (by omega) (by omega) (by omega) (by omega)), (MV_step (i := x_6) (j := v_64) (m := 16) hi_9_4 eg_62 ev_61 (by omega) (by omega) (by omega) (by omega) (by omega) (by omega))⟩ (by omega) hw63 (lv_sub hl65 [0, 1, 2] rfl)
  exact loop_5 (Int.toNat (z_lines.toInt - 0) + 1) 0 (mf 28) (mf 29) (mf 30) _ _ _ ⟨(by show 0 ≤ (0 : Int32).toInt; have k_0 : (0 : Int32).toInt = 0 := (by decide +kernel); omega), (by show (0 : Int32).toInt ≤ z_lines.toInt; have k_0 : (0 : Int32).toInt = 0 := (by decide +kernel); omega), (MV_nil (by decide +kernel)), (MV_nil (by decide +kernel)), (MV_nil (by decide +kernel))⟩ (by have k_0 : (0 : Int32).toInt = 0 := (by decide +kernel); omega) hw1 (lv_sub hl4 [0, 1, 2] rfl)

set_option maxHeartbeats 4000000 in
set_option maxRecDepth 100000 in
theorem s_takesLaw1 (l : Launch) (D : va_G) (cI cJ : ClassId) (sz M : Nat) (mr : Nat → Nat) (mi : Nat → Int32) (mf : Nat → Nat → Int32) (mg : Nat → Nat → Int64) (z_lines : Int32) (h0 : (mi 33).toInt = 1) (h1 : 0 ≤ z_lines.toInt ∧ z_lines.toInt ≤ 16) (h2 : 0 ≤ (mi 34).toInt ∧ (mi 34).toInt ≤ 400) (h3 : 0 ≤ ((mf 27) 0).toInt) (h4 : ((mf 27) 0).toInt ≤ 16) (h5 : 0 ≤ ((mf 27) 1).toInt) (h6 : ((mf 27) 1).toInt ≤ 16) (lf_law0 : LW 0 0 (mf 31) (mf 32) (mf 28) (mf 29) (mf 30) ((mf 27) 0).toInt 400) (x_lw : LW 32 800 (mf 31) (mf 32) (mf 28) (mf 29) (mf 30) z_lines.toInt (mi 34).toInt) : Met l yX12_takesLaw (Cond.code yX12_takesLaw cX12_takesLaw 3 none :: GW) ({ frames := 1, cells := 0, slots := 0, locals := 40 } : Room) (va_Pc [.ref M, .int z_lines] (PW D cI cJ sz (MW cI cJ M mr mi mf mg) xT)) (va_Qv (fun (u : (Nat → Int32) × (Nat → Int32) × (Nat → Int32) × (Nat → Int32) × (Nat → Int32) × (Nat → Int32)) => ((u.2.2.2.2.2 1).toInt = z_lines.toInt) ∧ ((u.2.2.2.2.2 0).toInt = ((mf 27) 0).toInt) ∧ (LW 0 0 u.2.2.2.1 u.2.2.2.2.1 u.1 u.2.1 u.2.2.1 (u.2.2.2.2.2 0).toInt 400) ∧ (LW 16 400 u.2.2.2.1 u.2.2.2.2.1 u.1 u.2.1 u.2.2.1 (u.2.2.2.2.2 1).toInt 400)) (fun u => QW D cI cJ (va_A (MW cI cJ M mr mi mf mg) sz) ((fun (u : (Nat → Int32) × (Nat → Int32) × (Nat → Int32) × (Nat → Int32) × (Nat → Int32) × (Nat → Int32)) => (MW cI cJ M mr mi (va_up (va_up (va_up (va_up (va_up (va_up mf 28 u.1) 29 u.2.1) 30 u.2.2.1) 31 u.2.2.2.1) 32 u.2.2.2.2.1) 27 u.2.2.2.2.2) mg)) u)) (va_A (MW cI cJ M mr mi mf mg) sz)) 0 0 (va_A (MW cI cJ M mr mi mf mg) sz) := by
  refine mk_met (y := yX12_takesLaw) (bytes := cX12_takesLaw) (maxL := 3) (avs := [.ref M, .int z_lines]) (WS := (MW cI cJ M mr mi mf mg)) (Qf := fun A => va_Qv (fun (u : (Nat → Int32) × (Nat → Int32) × (Nat → Int32) × (Nat → Int32) × (Nat → Int32) × (Nat → Int32)) => ((u.2.2.2.2.2 1).toInt = z_lines.toInt) ∧ ((u.2.2.2.2.2 0).toInt = ((mf 27) 0).toInt) ∧ (LW 0 0 u.2.2.2.1 u.2.2.2.2.1 u.1 u.2.1 u.2.2.1 (u.2.2.2.2.2 0).toInt 400) ∧ (LW 16 400 u.2.2.2.1 u.2.2.2.2.1 u.1 u.2.1 u.2.2.1 (u.2.2.2.2.2 1).toInt 400)) (fun u => QW D cI cJ A ((fun (u : (Nat → Int32) × (Nat → Int32) × (Nat → Int32) × (Nat → Int32) × (Nat → Int32) × (Nat → Int32)) => (MW cI cJ M mr mi (va_up (va_up (va_up (va_up (va_up (va_up mf 28 u.1) 29 u.2.1) 30 u.2.2.1) 31 u.2.2.2.1) 32 u.2.2.2.2.1) 27 u.2.2.2.2.2) mg)) u)) A) (by decide) (Nat.le_of_ble_eq_true rfl) ?_
  intro p e s m below meth c A ls E hr hlk hnm hX hw1 hl2
  have hl3 : lv_has ls 3 [(0, .ref M), (1, .int z_lines)] := hl2
  refine lv_iconst (pc := 0) (v := 0) E.1 E.2.1 dX12_takesLaw_0 (by decide +kernel) ?_
  refine lv_istore_n (pc := 1) (lv' := [(2, .int 0), (0, .ref M), (1, .int z_lines)]) E.1 E.2.1 dX12_takesLaw_1 rfl hl3 (by decide) rfl (fun ls hl4 => ?_)
  have loop_5 : ∀ (k : Nat) (x_6 : Int32) (g_7 : Nat → Int32) (g_8 : Nat → Int32) (g_9 : Nat → Int32) (H : Heap) (locs : List Loc) (ls : Array Slot), (0 ≤ x_6.toInt) ∧ (x_6.toInt ≤ z_lines.toInt) ∧ (MV g_7 (mf 28) 16 32 x_6.toInt) ∧ (MV g_8 (mf 29) 16 32 x_6.toInt) ∧ (MV g_9 (mf 30) 16 32 x_6.toInt) → z_lines.toInt - x_6.toInt < (k : Int) → WD D A s.heap (MW cI cJ M mr mi (va_up (va_up (va_up mf 28 g_7) 29 g_8) 30 g_9) mg) H locs → lv_has ls 3 [(2, .int x_6), (0, .ref M), (1, .int z_lines)] → W p l e ({ frames := 1, cells := 0, slots := 0, locals := 40 } : Room) s m ([.ref M, .int z_lines] : List Value).toArray below meth c H locs 0 0 (MQ below (va_Qv (fun (u : (Nat → Int32) × (Nat → Int32) × (Nat → Int32) × (Nat → Int32) × (Nat → Int32) × (Nat → Int32)) => ((u.2.2.2.2.2 1).toInt = z_lines.toInt) ∧ ((u.2.2.2.2.2 0).toInt = ((mf 27) 0).toInt) ∧ (LW 0 0 u.2.2.2.1 u.2.2.2.2.1 u.1 u.2.1 u.2.2.1 (u.2.2.2.2.2 0).toInt 400) ∧ (LW 16 400 u.2.2.2.1 u.2.2.2.2.1 u.1 u.2.1 u.2.2.1 (u.2.2.2.2.2 1).toInt 400)) (fun u => QW D cI cJ A ((fun (u : (Nat → Int32) × (Nat → Int32) × (Nat → Int32) × (Nat → Int32) × (Nat → Int32) × (Nat → Int32)) => (MW cI cJ M mr mi (va_up (va_up (va_up (va_up (va_up (va_up mf 28 u.1) 29 u.2.1) 30 u.2.2.1) 31 u.2.2.2.1) 32 u.2.2.2.2.1) 27 u.2.2.2.2.2) mg)) u)) A) ([.ref M, .int z_lines] : List Value).toArray s 0 0 A) (F0 m 2 ls []) := by
    intro k
    induction k with
    | zero =>
      intro x_6 g_7 g_8 g_9 _ _ _ hinv hm
      obtain ⟨hi_9_0, hi_9_1, hi_9_2, hi_9_3, hi_9_4⟩ := hinv
      exact absurd hm (by omega)
    | succ k ih_10 =>
      intro x_6 g_7 g_8 g_9 H locs ls hinv hm hw11 hl12
      obtain ⟨hi_9_0, hi_9_1, hi_9_2, hi_9_3, hi_9_4⟩ := hinv
      refine lv_iload_n (pc := 2) E.1 E.2.1 dX12_takesLaw_2 rfl (lv_at hl12 0 rfl) ?_
      refine lv_iload_n (pc := 3) E.1 E.2.1 dX12_takesLaw_3 rfl (lv_at hl12 2 rfl) ?_
      refine lv_icmp_ge (pc := 4) (tgt := 82) E.1 E.2.1 dX12_takesLaw_4 (by decide) (fun c_13 => ?_) (fun c_13 => ?_)
      · skip
        have hc_13 := leE (a := z_lines.toInt) (b := x_6.toInt) rfl rfl c_13
        have hm_14 : MV g_7 (mf 28) 16 32 z_lines.toInt := by rw [show z_lines.toInt = x_6.toInt from by omega]; exact hi_9_2
        have hm_15 : MV g_8 (mf 29) 16 32 z_lines.toInt := by rw [show z_lines.toInt = x_6.toInt from by omega]; exact hi_9_3
        have hm_16 : MV g_9 (mf 30) 16 32 z_lines.toInt := by rw [show z_lines.toInt = x_6.toInt from by omega]; exact hi_9_4
        refine lv_iconst (pc := 82) (v := 0) E.1 E.2.1 dX12_takesLaw_82 (by decide +kernel) ?_
        refine lv_istore_n (pc := 83) (lv' := [(2, .int 0), (0, .ref M), (1, .int z_lines)]) E.1 E.2.1 dX12_takesLaw_83 rfl hl12 (by decide) rfl (fun ls hl17 => ?_)
        have loop_18 : ∀ (k : Nat) (x_19 : Int32) (g_20 : Nat → Int32) (g_21 : Nat → Int32) (H : Heap) (locs : List Loc) (ls : Array Slot), (0 ≤ x_19.toInt) ∧ (x_19.toInt ≤ (mi 34).toInt) ∧ (MV g_20 (mf 31) 400 800 x_19.toInt) ∧ (MV g_21 (mf 32) 400 800 x_19.toInt) → (mi 34).toInt - x_19.toInt < (k : Int) → WD D A s.heap (MW cI cJ M mr mi (va_up (va_up (va_up (va_up (va_up mf 28 g_7) 29 g_8) 30 g_9) 31 g_20) 32 g_21) mg) H locs → lv_has ls 3 [(2, .int x_19), (0, .ref M), (1, .int z_lines)] → W p l e ({ frames := 1, cells := 0, slots := 0, locals := 40 } : Room) s m ([.ref M, .int z_lines] : List Value).toArray below meth c H locs 0 0 (MQ below (va_Qv (fun (u : (Nat → Int32) × (Nat → Int32) × (Nat → Int32) × (Nat → Int32) × (Nat → Int32) × (Nat → Int32)) => ((u.2.2.2.2.2 1).toInt = z_lines.toInt) ∧ ((u.2.2.2.2.2 0).toInt = ((mf 27) 0).toInt) ∧ (LW 0 0 u.2.2.2.1 u.2.2.2.2.1 u.1 u.2.1 u.2.2.1 (u.2.2.2.2.2 0).toInt 400) ∧ (LW 16 400 u.2.2.2.1 u.2.2.2.2.1 u.1 u.2.1 u.2.2.1 (u.2.2.2.2.2 1).toInt 400)) (fun u => QW D cI cJ A ((fun (u : (Nat → Int32) × (Nat → Int32) × (Nat → Int32) × (Nat → Int32) × (Nat → Int32) × (Nat → Int32)) => (MW cI cJ M mr mi (va_up (va_up (va_up (va_up (va_up (va_up mf 28 u.1) 29 u.2.1) 30 u.2.2.1) 31 u.2.2.2.1) 32 u.2.2.2.2.1) 27 u.2.2.2.2.2) mg)) u)) A) ([.ref M, .int z_lines] : List Value).toArray s 0 0 A) (F0 m 84 ls []) := by
          intro k
          induction k with
          | zero =>
            intro x_19 g_20 g_21 _ _ _ hinv hm
            obtain ⟨hi_21_0, hi_21_1, hi_21_2, hi_21_3⟩ := hinv
            exact absurd hm (by omega)
          | succ k ih_22 =>
            intro x_19 g_20 g_21 H locs ls hinv hm hw23 hl24
            obtain ⟨hi_21_0, hi_21_1, hi_21_2, hi_21_3⟩ := hinv
            refine lv_iload_n (pc := 84) E.1 E.2.1 dX12_takesLaw_84 rfl (lv_at hl24 0 rfl) ?_
            refine lv_aload_n (pc := 85) E.1 E.2.1 dX12_takesLaw_85 rfl (lv_at hl24 1 rfl) ?_
            refine x_get (pc := 86) (T := TX12) (N := 70) (ci := 12) (v := .int (mi 34)) E hw23 inX12 0 34 q_1433 rfl rfl (by decide) rfl rfl dX12_takesLaw_86 ?_
            refine lv_icmp_ge (pc := 89) (tgt := 148) E.1 E.2.1 dX12_takesLaw_89 (by decide) (fun c_25 => ?_) (fun c_25 => ?_)
            · skip
              have hc_25 := leE (a := (mi 34).toInt) (b := x_19.toInt) rfl rfl c_25
              have hm_26 : MV g_20 (mf 31) 400 800 (mi 34).toInt := by rw [show (mi 34).toInt = x_19.toInt from by omega]; exact hi_21_2
              have hm_27 : MV g_21 (mf 32) 400 800 (mi 34).toInt := by rw [show (mi 34).toInt = x_19.toInt from by omega]; exact hi_21_3
              refine lv_aload_n (pc := 148) E.1 E.2.1 dX12_takesLaw_148 rfl (lv_at hl24 1 rfl) ?_
              refine x_get (pc := 149) (T := TX12) (N := 70) (ci := 12) (v := .ref (mr 27)) E hw23 inX12 0 27 q_1426 rfl rfl (by decide) rfl rfl dX12_takesLaw_149 ?_
              refine lv_aload_n (pc := 152) E.1 E.2.1 dX12_takesLaw_152 rfl (lv_at hl24 1 rfl) ?_
              refine x_get (pc := 153) (T := TX12) (N := 70) (ci := 12) (v := .int (mi 33)) E hw23 inX12 0 33 q_1432 rfl rfl (by decide) rfl rfl dX12_takesLaw_153 ?_
              refine lv_iload_n (pc := 156) E.1 E.2.1 dX12_takesLaw_156 rfl (lv_at hl24 2 rfl) ?_
              refine x_iastG (pc := 157) (f := (mf 27)) (wf := fun g => (MW cI cJ M mr mi (va_up (va_up (va_up (va_up (va_up (va_up mf 27 g) 28 g_7) 29 g_8) 30 g_9) 31 g_20) 32 g_21) mg)) E hw23 14 rfl (inbE (a := (mi 33).toInt) rfl (by omega)) (fun _ => rfl) dX12_takesLaw_157 (fun g_28 H locs eg_28 hw29 => ?_)
              have ht_30 : (g_28 0).toInt = ((mf 27) 0).toInt := by rw [eg_28, pk_un (by have q9 := idxI (x := (mi 33)) (by omega); omega)]
              have ht_31 : (g_28 1).toInt = (z_lines : Int32).toInt := by rw [eg_28, show (mi 33).toNatClampNeg = 1 from (by have q9 := idxI (x := (mi 33)) (by omega); omega), pk_us]
              exact em_v (w1 := (fun (u : (Nat → Int32) × (Nat → Int32) × (Nat → Int32) × (Nat → Int32) × (Nat → Int32) × (Nat → Int32)) => (MW cI cJ M mr mi (va_up (va_up (va_up (va_up (va_up (va_up mf 28 u.1) 29 u.2.1) 30 u.2.2.1) 31 u.2.2.2.1) 32 u.2.2.2.2.1) 27 u.2.2.2.2.2) mg))) E hr hlk (g_7, g_8, g_9, g_20, g_21, g_28) hw29 ⟨(by show (g_28 1).toInt = z_lines.toInt; omega), (by show (g_28 0).toInt = ((mf 27) 0).toInt; omega), (show LW 0 0 g_20 g_21 g_7 g_8 g_9 (g_28 0).toInt 400 from (by rw [show (g_28 0).toInt = ((mf 27) 0).toInt from by omega]; exact LW_keep lf_law0 (by omega) hm_14 hm_15 hm_16 hm_26 hm_27 (by omega) (by omega))), (show LW 16 400 g_20 g_21 g_7 g_8 g_9 (g_28 1).toInt 400 from (by rw [show (g_28 1).toInt = z_lines.toInt from by omega]; exact LW_move x_lw (by omega) (by omega) hm_14 hm_15 hm_16 hm_26 hm_27))⟩ (Nat.le_of_ble_eq_true rfl) (Nat.le_of_ble_eq_true rfl) dX12_takesLaw_158
            · skip
              have hc_25 := nleE (a := (mi 34).toInt) (b := x_19.toInt) rfl rfl c_25
              refine lv_aload_n (pc := 92) E.1 E.2.1 dX12_takesLaw_92 rfl (lv_at hl24 1 rfl) ?_
              refine x_get (pc := 93) (T := TX12) (N := 70) (ci := 12) (v := .ref (mr 31)) E hw23 inX12 0 31 q_1430 rfl rfl (by decide) rfl rfl dX12_takesLaw_93 ?_
              refine lv_sipush (pc := 96) (v := 400) E.1 E.2.1 dX12_takesLaw_96 (by decide +kernel) ?_
              refine lv_aload_n (pc := 99) E.1 E.2.1 dX12_takesLaw_99 rfl (lv_at hl24 1 rfl) ?_
              refine x_get (pc := 100) (T := TX12) (N := 70) (ci := 12) (v := .int (mi 33)) E hw23 inX12 0 33 q_1432 rfl rfl (by decide) rfl rfl dX12_takesLaw_100 ?_
              refine lv_imul (pc := 103) E.1 E.2.1 dX12_takesLaw_103 ?_
              refine lv_topi (fun v_32 ev_32 => ?_)
              have hv_32 : v_32.toInt = 400 * (mi 33).toInt := by rw [ev_32]; exact mulE (by decide +kernel) rfl (by omega)
              refine lv_iload_n (pc := 104) E.1 E.2.1 dX12_takesLaw_104 rfl (lv_at hl24 0 rfl) ?_
              refine lv_iadd (pc := 105) E.1 E.2.1 dX12_takesLaw_105 ?_
              refine lv_topi (fun v_33 ev_33 => ?_)
              have hv_33 : v_33.toInt = v_32.toInt + x_19.toInt := by rw [ev_33]; exact addE rfl rfl (by omega)
              refine lv_aload_n (pc := 106) E.1 E.2.1 dX12_takesLaw_106 rfl (lv_at hl24 1 rfl) ?_
              refine x_get (pc := 107) (T := TX12) (N := 70) (ci := 12) (v := .ref (mr 31)) E hw23 inX12 0 31 q_1430 rfl rfl (by decide) rfl rfl dX12_takesLaw_107 ?_
              refine lv_sipush (pc := 110) (v := 800) E.1 E.2.1 dX12_takesLaw_110 (by decide +kernel) ?_
              refine lv_iload_n (pc := 113) E.1 E.2.1 dX12_takesLaw_113 rfl (lv_at hl24 0 rfl) ?_
              refine lv_iadd (pc := 114) E.1 E.2.1 dX12_takesLaw_114 ?_
              refine lv_topi (fun v_34 ev_34 => ?_)
              have hv_34 : v_34.toInt = 800 + x_19.toInt := by rw [ev_34]; exact addE (by decide +kernel) rfl (by omega)
              refine x_iald (pc := 115) (f := g_20) E hw23 18 rfl (inbE (a := v_34.toInt) rfl (by omega)) dX12_takesLaw_115 ?_
              refine lv_topi (fun v_35 ev_35 => ?_)
              refine x_iastG (pc := 116) (f := g_20) (wf := fun g => (MW cI cJ M mr mi (va_up (va_up (va_up (va_up (va_up mf 28 g_7) 29 g_8) 30 g_9) 31 g) 32 g_21) mg)) E hw23 18 rfl (inbE (a := v_33.toInt) rfl (by omega)) (fun _ => rfl) dX12_takesLaw_116 (fun g_36 H locs eg_36 hw37 => ?_)
              refine lv_aload_n (pc := 117) E.1 E.2.1 dX12_takesLaw_117 rfl (lv_at hl24 1 rfl) ?_
              refine x_get (pc := 118) (T := TX12) (N := 70) (ci := 12) (v := .ref (mr 32)) E hw37 inX12 0 32 q_1431 rfl rfl (by decide) rfl rfl dX12_takesLaw_118 ?_
              refine lv_sipush (pc := 121) (v := 400) E.1 E.2.1 dX12_takesLaw_121 (by decide +kernel) ?_
              refine lv_aload_n (pc := 124) E.1 E.2.1 dX12_takesLaw_124 rfl (lv_at hl24 1 rfl) ?_
              refine x_get (pc := 125) (T := TX12) (N := 70) (ci := 12) (v := .int (mi 33)) E hw37 inX12 0 33 q_1432 rfl rfl (by decide) rfl rfl dX12_takesLaw_125 ?_
              refine lv_imul (pc := 128) E.1 E.2.1 dX12_takesLaw_128 ?_
              refine lv_topi (fun v_38 ev_38 => ?_)
              have hv_38 : v_38.toInt = 400 * (mi 33).toInt := by rw [ev_38]; exact mulE (by decide +kernel) rfl (by omega)
              refine lv_iload_n (pc := 129) E.1 E.2.1 dX12_takesLaw_129 rfl (lv_at hl24 0 rfl) ?_
              refine lv_iadd (pc := 130) E.1 E.2.1 dX12_takesLaw_130 ?_
              refine lv_topi (fun v_39 ev_39 => ?_)
              have hv_39 : v_39.toInt = v_38.toInt + x_19.toInt := by rw [ev_39]; exact addE rfl rfl (by omega)
              refine lv_aload_n (pc := 131) E.1 E.2.1 dX12_takesLaw_131 rfl (lv_at hl24 1 rfl) ?_
              refine x_get (pc := 132) (T := TX12) (N := 70) (ci := 12) (v := .ref (mr 32)) E hw37 inX12 0 32 q_1431 rfl rfl (by decide) rfl rfl dX12_takesLaw_132 ?_
              refine lv_sipush (pc := 135) (v := 800) E.1 E.2.1 dX12_takesLaw_135 (by decide +kernel) ?_
              refine lv_iload_n (pc := 138) E.1 E.2.1 dX12_takesLaw_138 rfl (lv_at hl24 0 rfl) ?_
              refine lv_iadd (pc := 139) E.1 E.2.1 dX12_takesLaw_139 ?_
              refine lv_topi (fun v_40 ev_40 => ?_)
              have hv_40 : v_40.toInt = 800 + x_19.toInt := by rw [ev_40]; exact addE (by decide +kernel) rfl (by omega)
              refine x_iald (pc := 140) (f := g_21) E hw37 19 rfl (inbE (a := v_40.toInt) rfl (by omega)) dX12_takesLaw_140 ?_
              refine lv_topi (fun v_41 ev_41 => ?_)
              refine x_iastG (pc := 141) (f := g_21) (wf := fun g => (MW cI cJ M mr mi (va_up (va_up (va_up (va_up (va_up mf 28 g_7) 29 g_8) 30 g_9) 31 g_36) 32 g) mg)) E hw37 19 rfl (inbE (a := v_39.toInt) rfl (by omega)) (fun _ => rfl) dX12_takesLaw_141 (fun g_42 H locs eg_42 hw43 => ?_)
              obtain ⟨v_44, ev_44⟩ : ∃ z : Int32, x_19 + Int32.ofInt (1) = z := ⟨_, rfl⟩
              have hv_44 : v_44.toInt = x_19.toInt + (1) := by rw [← ev_44]; exact incE rfl (by decide) (by omega)
              refine lv_iinc (pc := 142) (v := v_44) (lv' := [(2, .int v_44), (0, .ref M), (1, .int z_lines)]) E.1 E.2.1 dX12_takesLaw_142 hl24 (k := 0) rfl ev_44 (by decide) rfl (fun ls hl45 => ?_)
              refine lv_goto (pc := 145) (tgt := 84) E.1 E.2.1 dX12_takesLaw_145 (by decide) ?_
              exact ih_22 v_44 g_36 g_42 _ _ _ ⟨(by show 0 ≤ v_44.toInt; omega), (by show v_44.toInt ≤ (mi 34).toInt; omega), (MV_step (i := x_19) (j := v_44) (m := 400) hi_21_2 eg_36 ev_35 (by omega) (by omega) (by omega) (by omega) (by omega) (by omega)), (MV_step (i := x_19) (j := v_44) (m := 400) hi_21_3 eg_42 ev_41 (by omega) (by omega) (by omega) (by omega) (by omega) (by omega))⟩ (by omega) hw43 (lv_sub hl45 [0, 1, 2] rfl)
        exact loop_18 (Int.toNat ((mi 34).toInt - 0) + 1) 0 (mf 31) (mf 32) _ _ _ ⟨(by show 0 ≤ (0 : Int32).toInt; have k_0 : (0 : Int32).toInt = 0 := (by decide +kernel); omega), (by show (0 : Int32).toInt ≤ (mi 34).toInt; have k_0 : (0 : Int32).toInt = 0 := (by decide +kernel); omega), (MV_nil (by decide +kernel)), (MV_nil (by decide +kernel))⟩ (by have k_0 : (0 : Int32).toInt = 0 := (by decide +kernel); omega) hw11 (lv_sub hl17 [0, 1, 2] rfl)
      · skip
        have hc_13 := nleE (a := z_lines.toInt) (b := x_6.toInt) rfl rfl c_13
        refine lv_aload_n (pc := 7) E.1 E.2.1 dX12_takesLaw_7 rfl (lv_at hl12 1 rfl) ?_
        refine x_get (pc := 8) (T := TX12) (N := 70) (ci := 12) (v := .ref (mr 28)) E hw11 inX12 0 28 q_1427 rfl rfl (by decide) rfl rfl dX12_takesLaw_8 ?_
        refine lv_bipush (pc := 11) (v := 16) E.1 E.2.1 dX12_takesLaw_11 (by decide +kernel) ?_
        refine lv_aload_n (pc := 13) E.1 E.2.1 dX12_takesLaw_13 rfl (lv_at hl12 1 rfl) ?_
        refine x_get (pc := 14) (T := TX12) (N := 70) (ci := 12) (v := .int (mi 33)) E hw11 inX12 0 33 q_1432 rfl rfl (by decide) rfl rfl dX12_takesLaw_14 ?_
        refine lv_imul (pc := 17) E.1 E.2.1 dX12_takesLaw_17 ?_
        refine lv_topi (fun v_46 ev_46 => ?_)
        have hv_46 : v_46.toInt = 16 * (mi 33).toInt := by rw [ev_46]; exact mulE (by decide +kernel) rfl (by omega)
        refine lv_iload_n (pc := 18) E.1 E.2.1 dX12_takesLaw_18 rfl (lv_at hl12 0 rfl) ?_
        refine lv_iadd (pc := 19) E.1 E.2.1 dX12_takesLaw_19 ?_
        refine lv_topi (fun v_47 ev_47 => ?_)
        have hv_47 : v_47.toInt = v_46.toInt + x_6.toInt := by rw [ev_47]; exact addE rfl rfl (by omega)
        refine lv_aload_n (pc := 20) E.1 E.2.1 dX12_takesLaw_20 rfl (lv_at hl12 1 rfl) ?_
        refine x_get (pc := 21) (T := TX12) (N := 70) (ci := 12) (v := .ref (mr 28)) E hw11 inX12 0 28 q_1427 rfl rfl (by decide) rfl rfl dX12_takesLaw_21 ?_
        refine lv_bipush (pc := 24) (v := 32) E.1 E.2.1 dX12_takesLaw_24 (by decide +kernel) ?_
        refine lv_iload_n (pc := 26) E.1 E.2.1 dX12_takesLaw_26 rfl (lv_at hl12 0 rfl) ?_
        refine lv_iadd (pc := 27) E.1 E.2.1 dX12_takesLaw_27 ?_
        refine lv_topi (fun v_48 ev_48 => ?_)
        have hv_48 : v_48.toInt = 32 + x_6.toInt := by rw [ev_48]; exact addE (by decide +kernel) rfl (by omega)
        refine x_iald (pc := 28) (f := g_7) E hw11 15 rfl (inbE (a := v_48.toInt) rfl (by omega)) dX12_takesLaw_28 ?_
        refine lv_topi (fun v_49 ev_49 => ?_)
        refine x_iastG (pc := 29) (f := g_7) (wf := fun g => (MW cI cJ M mr mi (va_up (va_up (va_up mf 28 g) 29 g_8) 30 g_9) mg)) E hw11 15 rfl (inbE (a := v_47.toInt) rfl (by omega)) (fun _ => rfl) dX12_takesLaw_29 (fun g_50 H locs eg_50 hw51 => ?_)
        refine lv_aload_n (pc := 30) E.1 E.2.1 dX12_takesLaw_30 rfl (lv_at hl12 1 rfl) ?_
        refine x_get (pc := 31) (T := TX12) (N := 70) (ci := 12) (v := .ref (mr 29)) E hw51 inX12 0 29 q_1428 rfl rfl (by decide) rfl rfl dX12_takesLaw_31 ?_
        refine lv_bipush (pc := 34) (v := 16) E.1 E.2.1 dX12_takesLaw_34 (by decide +kernel) ?_
        refine lv_aload_n (pc := 36) E.1 E.2.1 dX12_takesLaw_36 rfl (lv_at hl12 1 rfl) ?_
        refine x_get (pc := 37) (T := TX12) (N := 70) (ci := 12) (v := .int (mi 33)) E hw51 inX12 0 33 q_1432 rfl rfl (by decide) rfl rfl dX12_takesLaw_37 ?_
        refine lv_imul (pc := 40) E.1 E.2.1 dX12_takesLaw_40 ?_
        refine lv_topi (fun v_52 ev_52 => ?_)
        have hv_52 : v_52.toInt = 16 * (mi 33).toInt := by rw [ev_52]; exact mulE (by decide +kernel) rfl (by omega)
        refine lv_iload_n (pc := 41) E.1 E.2.1 dX12_takesLaw_41 rfl (lv_at hl12 0 rfl) ?_
        refine lv_iadd (pc := 42) E.1 E.2.1 dX12_takesLaw_42 ?_
        refine lv_topi (fun v_53 ev_53 => ?_)
        have hv_53 : v_53.toInt = v_52.toInt + x_6.toInt := by rw [ev_53]; exact addE rfl rfl (by omega)
        refine lv_aload_n (pc := 43) E.1 E.2.1 dX12_takesLaw_43 rfl (lv_at hl12 1 rfl) ?_
        refine x_get (pc := 44) (T := TX12) (N := 70) (ci := 12) (v := .ref (mr 29)) E hw51 inX12 0 29 q_1428 rfl rfl (by decide) rfl rfl dX12_takesLaw_44 ?_
        refine lv_bipush (pc := 47) (v := 32) E.1 E.2.1 dX12_takesLaw_47 (by decide +kernel) ?_
        refine lv_iload_n (pc := 49) E.1 E.2.1 dX12_takesLaw_49 rfl (lv_at hl12 0 rfl) ?_
        refine lv_iadd (pc := 50) E.1 E.2.1 dX12_takesLaw_50 ?_
        refine lv_topi (fun v_54 ev_54 => ?_)
        have hv_54 : v_54.toInt = 32 + x_6.toInt := by rw [ev_54]; exact addE (by decide +kernel) rfl (by omega)
        refine x_iald (pc := 51) (f := g_8) E hw51 16 rfl (inbE (a := v_54.toInt) rfl (by omega)) dX12_takesLaw_51 ?_
        refine lv_topi (fun v_55 ev_55 => ?_)
        refine x_iastG (pc := 52) (f := g_8) (wf := fun g => (MW cI cJ M mr mi (va_up (va_up (va_up mf 28 g_50) 29 g) 30 g_9) mg)) E hw51 16 rfl (inbE (a := v_53.toInt) rfl (by omega)) (fun _ => rfl) dX12_takesLaw_52 (fun g_56 H locs eg_56 hw57 => ?_)
        refine lv_aload_n (pc := 53) E.1 E.2.1 dX12_takesLaw_53 rfl (lv_at hl12 1 rfl) ?_
        refine x_get (pc := 54) (T := TX12) (N := 70) (ci := 12) (v := .ref (mr 30)) E hw57 inX12 0 30 q_1429 rfl rfl (by decide) rfl rfl dX12_takesLaw_54 ?_
        refine lv_bipush (pc := 57) (v := 16) E.1 E.2.1 dX12_takesLaw_57 (by decide +kernel) ?_
        refine lv_aload_n (pc := 59) E.1 E.2.1 dX12_takesLaw_59 rfl (lv_at hl12 1 rfl) ?_
        refine x_get (pc := 60) (T := TX12) (N := 70) (ci := 12) (v := .int (mi 33)) E hw57 inX12 0 33 q_1432 rfl rfl (by decide) rfl rfl dX12_takesLaw_60 ?_
        refine lv_imul (pc := 63) E.1 E.2.1 dX12_takesLaw_63 ?_
        refine lv_topi (fun v_58 ev_58 => ?_)
        have hv_58 : v_58.toInt = 16 * (mi 33).toInt := by rw [ev_58]; exact mulE (by decide +kernel) rfl (by omega)
        refine lv_iload_n (pc := 64) E.1 E.2.1 dX12_takesLaw_64 rfl (lv_at hl12 0 rfl) ?_
        refine lv_iadd (pc := 65) E.1 E.2.1 dX12_takesLaw_65 ?_
        refine lv_topi (fun v_59 ev_59 => ?_)
        have hv_59 : v_59.toInt = v_58.toInt + x_6.toInt := by rw [ev_59]; exact addE rfl rfl (by omega)
        refine lv_aload_n (pc := 66) E.1 E.2.1 dX12_takesLaw_66 rfl (lv_at hl12 1 rfl) ?_
        refine x_get (pc := 67) (T := TX12) (N := 70) (ci := 12) (v := .ref (mr 30)) E hw57 inX12 0 30 q_1429 rfl rfl (by decide) rfl rfl dX12_takesLaw_67 ?_
        refine lv_bipush (pc := 70) (v := 32) E.1 E.2.1 dX12_takesLaw_70 (by decide +kernel) ?_
        refine lv_iload_n (pc := 72) E.1 E.2.1 dX12_takesLaw_72 rfl (lv_at hl12 0 rfl) ?_
        refine lv_iadd (pc := 73) E.1 E.2.1 dX12_takesLaw_73 ?_
        refine lv_topi (fun v_60 ev_60 => ?_)
        have hv_60 : v_60.toInt = 32 + x_6.toInt := by rw [ev_60]; exact addE (by decide +kernel) rfl (by omega)
        refine x_iald (pc := 74) (f := g_9) E hw57 17 rfl (inbE (a := v_60.toInt) rfl (by omega)) dX12_takesLaw_74 ?_
        refine lv_topi (fun v_61 ev_61 => ?_)
        refine x_iastG (pc := 75) (f := g_9) (wf := fun g => (MW cI cJ M mr mi (va_up (va_up (va_up mf 28 g_50) 29 g_56) 30 g) mg)) E hw57 17 rfl (inbE (a := v_59.toInt) rfl (by omega)) (fun _ => rfl) dX12_takesLaw_75 (fun g_62 H locs eg_62 hw63 => ?_)
        obtain ⟨v_64, ev_64⟩ : ∃ z : Int32, x_6 + Int32.ofInt (1) = z := ⟨_, rfl⟩
        have hv_64 : v_64.toInt = x_6.toInt + (1) := by rw [← ev_64]; exact incE rfl (by decide) (by omega)
        refine lv_iinc (pc := 76) (v := v_64) (lv' := [(2, .int v_64), (0, .ref M), (1, .int z_lines)]) E.1 E.2.1 dX12_takesLaw_76 hl12 (k := 0) rfl ev_64 (by decide) rfl (fun ls hl65 => ?_)
        refine lv_goto (pc := 79) (tgt := 2) E.1 E.2.1 dX12_takesLaw_79 (by decide) ?_
        exact ih_10 v_64 g_50 g_56 g_62 _ _ _ ⟨(by show 0 ≤ v_64.toInt; omega), (by show v_64.toInt ≤ z_lines.toInt; omega), (MV_step (i := x_6) (j := v_64) (m := 16) hi_9_2 eg_50 ev_49 (by omega) (by omega) (by omega) (by omega) (by omega) (by omega)), (MV_step (i := x_6) (j := v_64) (m := 16) hi_9_3 eg_56 ev_55 (by omega) (by omega) (by omega) (by omega) (by omega) (by omega)), (MV_step (i := x_6) (j := v_64) (m := 16) hi_9_4 eg_62 ev_61 (by omega) (by omega) (by omega) (by omega) (by omega) (by omega))⟩ (by omega) hw63 (lv_sub hl65 [0, 1, 2] rfl)
  exact loop_5 (Int.toNat (z_lines.toInt - 0) + 1) 0 (mf 28) (mf 29) (mf 30) _ _ _ ⟨(by show 0 ≤ (0 : Int32).toInt; have k_0 : (0 : Int32).toInt = 0 := (by decide +kernel); omega), (by show (0 : Int32).toInt ≤ z_lines.toInt; have k_0 : (0 : Int32).toInt = 0 := (by decide +kernel); omega), (MV_nil (by decide +kernel)), (MV_nil (by decide +kernel)), (MV_nil (by decide +kernel))⟩ (by have k_0 : (0 : Int32).toInt = 0 := (by decide +kernel); omega) hw1 (lv_sub hl4 [0, 1, 2] rfl)

set_option maxHeartbeats 4000000 in
set_option maxRecDepth 100000 in
theorem s_twoOf (l : Launch) (D : va_G) (cI cJ : ClassId) (sz M : Nat) (mr : Nat → Nat) (mi : Nat → Int32) (mf : Nat → Nat → Int32) (mg : Nat → Nat → Int64) (z_what : Int32) (z_x : Int32) (z_y : Int32) (x_dv : (z_what.toInt = 5 → ¬ z_y.toInt = 0)) : Met l yX12_twoOf (Cond.code yX12_twoOf cX12_twoOf 4 (some .int) :: GW) ({ frames := 1, cells := 0, slots := 0, locals := 40 } : Room) (va_Pc [.ref M, .int z_what, .int z_x, .int z_y] (PW D cI cJ sz (MW cI cJ M mr mi mf mg) xT)) (va_Qi (fun (r : Int32) (u : Unit) => True) (fun u => QW D cI cJ (va_A (MW cI cJ M mr mi mf mg) sz) ((fun (u : Unit) => (MW cI cJ M mr mi mf mg)) u)) (va_A (MW cI cJ M mr mi mf mg) sz)) 0 0 (va_A (MW cI cJ M mr mi mf mg) sz) := by
  refine mk_met (y := yX12_twoOf) (bytes := cX12_twoOf) (maxL := 4) (avs := [.ref M, .int z_what, .int z_x, .int z_y]) (WS := (MW cI cJ M mr mi mf mg)) (Qf := fun A => va_Qi (fun (r : Int32) (u : Unit) => True) (fun u => QW D cI cJ A ((fun (u : Unit) => (MW cI cJ M mr mi mf mg)) u)) A) (by decide) (Nat.le_of_ble_eq_true rfl) ?_
  intro p e s m below meth c A ls E hr hlk hnm hX hw1 hl2
  have hl3 : lv_has ls 4 [(0, .ref M), (1, .int z_what), (2, .int z_x), (3, .int z_y)] := hl2
  refine lv_iload_n (pc := 0) E.1 E.2.1 dX12_twoOf_0 rfl (lv_at hl3 1 rfl) ?_
  refine lv_iconst (pc := 1) (v := 2) E.1 E.2.1 dX12_twoOf_1 (by decide +kernel) ?_
  refine lv_icmp_ne (pc := 2) (tgt := 9) E.1 E.2.1 dX12_twoOf_2 (by decide) (fun c_4 => ?_) (fun c_4 => ?_)
  · skip
    have hc_4 := neE (a := z_what.toInt) (b := 2) rfl (by decide +kernel) c_4
    refine lv_iload_n (pc := 9) E.1 E.2.1 dX12_twoOf_9 rfl (lv_at hl3 1 rfl) ?_
    refine lv_iconst (pc := 10) (v := 3) E.1 E.2.1 dX12_twoOf_10 (by decide +kernel) ?_
    refine lv_icmp_ne (pc := 11) (tgt := 18) E.1 E.2.1 dX12_twoOf_11 (by decide) (fun c_5 => ?_) (fun c_5 => ?_)
    · skip
      have hc_5 := neE (a := z_what.toInt) (b := 3) rfl (by decide +kernel) c_5
      refine lv_iload_n (pc := 18) E.1 E.2.1 dX12_twoOf_18 rfl (lv_at hl3 1 rfl) ?_
      refine lv_iconst (pc := 19) (v := 4) E.1 E.2.1 dX12_twoOf_19 (by decide +kernel) ?_
      refine lv_icmp_ne (pc := 20) (tgt := 27) E.1 E.2.1 dX12_twoOf_20 (by decide) (fun c_6 => ?_) (fun c_6 => ?_)
      · skip
        have hc_6 := neE (a := z_what.toInt) (b := 4) rfl (by decide +kernel) c_6
        refine lv_iload_n (pc := 27) E.1 E.2.1 dX12_twoOf_27 rfl (lv_at hl3 1 rfl) ?_
        refine lv_iconst (pc := 28) (v := 5) E.1 E.2.1 dX12_twoOf_28 (by decide +kernel) ?_
        refine lv_icmp_ne (pc := 29) (tgt := 36) E.1 E.2.1 dX12_twoOf_29 (by decide) (fun c_7 => ?_) (fun c_7 => ?_)
        · skip
          have hc_7 := neE (a := z_what.toInt) (b := 5) rfl (by decide +kernel) c_7
          refine lv_iload_n (pc := 36) E.1 E.2.1 dX12_twoOf_36 rfl (lv_at hl3 1 rfl) ?_
          refine lv_bipush (pc := 37) (v := 6) E.1 E.2.1 dX12_twoOf_37 (by decide +kernel) ?_
          refine lv_icmp_ne (pc := 39) (tgt := 53) E.1 E.2.1 dX12_twoOf_39 (by decide) (fun c_8 => ?_) (fun c_8 => ?_)
          · skip
            have hc_8 := neE (a := z_what.toInt) (b := 6) rfl (by decide +kernel) c_8
            refine lv_iload_n (pc := 53) E.1 E.2.1 dX12_twoOf_53 rfl (lv_at hl3 1 rfl) ?_
            refine lv_bipush (pc := 54) (v := 7) E.1 E.2.1 dX12_twoOf_54 (by decide +kernel) ?_
            refine lv_icmp_ne (pc := 56) (tgt := 70) E.1 E.2.1 dX12_twoOf_56 (by decide) (fun c_9 => ?_) (fun c_9 => ?_)
            · skip
              have hc_9 := neE (a := z_what.toInt) (b := 7) rfl (by decide +kernel) c_9
              refine lv_iload_n (pc := 70) E.1 E.2.1 dX12_twoOf_70 rfl (lv_at hl3 1 rfl) ?_
              refine lv_bipush (pc := 71) (v := 8) E.1 E.2.1 dX12_twoOf_71 (by decide +kernel) ?_
              refine lv_icmp_ne (pc := 73) (tgt := 87) E.1 E.2.1 dX12_twoOf_73 (by decide) (fun c_10 => ?_) (fun c_10 => ?_)
              · skip
                have hc_10 := neE (a := z_what.toInt) (b := 8) rfl (by decide +kernel) c_10
                refine lv_iload_n (pc := 87) E.1 E.2.1 dX12_twoOf_87 rfl (lv_at hl3 1 rfl) ?_
                refine lv_bipush (pc := 88) (v := 10) E.1 E.2.1 dX12_twoOf_88 (by decide +kernel) ?_
                refine lv_icmp_ne (pc := 90) (tgt := 99) E.1 E.2.1 dX12_twoOf_90 (by decide) (fun c_11 => ?_) (fun c_11 => ?_)
                · skip
                  have hc_11 := neE (a := z_what.toInt) (b := 10) rfl (by decide +kernel) c_11
                  refine lv_iload_n (pc := 99) E.1 E.2.1 dX12_twoOf_99 rfl (lv_at hl3 2 rfl) ?_
                  refine lv_iload_n (pc := 100) E.1 E.2.1 dX12_twoOf_100 rfl (lv_at hl3 3 rfl) ?_
                  refine lv_iadd (pc := 101) E.1 E.2.1 dX12_twoOf_101 ?_
                  refine lv_topi (fun v_12 ev_12 => ?_)
                  refine lv_if_le (pc := 102) (tgt := 109) E.1 E.2.1 dX12_twoOf_102 (by decide) (fun c_13 => ?_) (fun c_13 => ?_)
                  · skip
                    have hc_13 := leE (a := v_12.toInt) (b := 0) rfl (by decide +kernel) c_13
                    refine lv_iconst (pc := 109) (v := 0) E.1 E.2.1 dX12_twoOf_109 (by decide +kernel) ?_
                    exact em_i (w1 := (fun (u : Unit) => (MW cI cJ M mr mi mf mg))) E hr hlk () hw1 trivial (Nat.le_of_ble_eq_true rfl) (Nat.le_of_ble_eq_true rfl) dX12_twoOf_110
                  · skip
                    have hc_13 := nleE (a := v_12.toInt) (b := 0) rfl (by decide +kernel) c_13
                    refine lv_iconst (pc := 105) (v := 1) E.1 E.2.1 dX12_twoOf_105 (by decide +kernel) ?_
                    refine lv_goto (pc := 106) (tgt := 110) E.1 E.2.1 dX12_twoOf_106 (by decide) ?_
                    exact em_i (w1 := (fun (u : Unit) => (MW cI cJ M mr mi mf mg))) E hr hlk () hw1 trivial (Nat.le_of_ble_eq_true rfl) (Nat.le_of_ble_eq_true rfl) dX12_twoOf_110
                · skip
                  have hc_11 := eqE (a := z_what.toInt) (b := 10) rfl (by decide +kernel) c_11
                  refine lv_iload_n (pc := 93) E.1 E.2.1 dX12_twoOf_93 rfl (lv_at hl3 2 rfl) ?_
                  refine lv_iload_n (pc := 94) E.1 E.2.1 dX12_twoOf_94 rfl (lv_at hl3 3 rfl) ?_
                  refine lv_imul (pc := 95) E.1 E.2.1 dX12_twoOf_95 ?_
                  refine lv_topi (fun v_14 ev_14 => ?_)
                  refine lv_goto (pc := 96) (tgt := 110) E.1 E.2.1 dX12_twoOf_96 (by decide) ?_
                  exact em_i (w1 := (fun (u : Unit) => (MW cI cJ M mr mi mf mg))) E hr hlk () hw1 trivial (Nat.le_of_ble_eq_true rfl) (Nat.le_of_ble_eq_true rfl) dX12_twoOf_110
              · skip
                have hc_10 := eqE (a := z_what.toInt) (b := 8) rfl (by decide +kernel) c_10
                refine lv_iload_n (pc := 76) E.1 E.2.1 dX12_twoOf_76 rfl (lv_at hl3 2 rfl) ?_
                refine lv_iload_n (pc := 77) E.1 E.2.1 dX12_twoOf_77 rfl (lv_at hl3 3 rfl) ?_
                refine lv_icmp_le (pc := 78) (tgt := 85) E.1 E.2.1 dX12_twoOf_78 (by decide) (fun c_15 => ?_) (fun c_15 => ?_)
                · skip
                  have hc_15 := leE (a := z_x.toInt) (b := z_y.toInt) rfl rfl c_15
                  refine lv_iconst (pc := 85) (v := 0) E.1 E.2.1 dX12_twoOf_85 (by decide +kernel) ?_
                  exact em_i (w1 := (fun (u : Unit) => (MW cI cJ M mr mi mf mg))) E hr hlk () hw1 trivial (Nat.le_of_ble_eq_true rfl) (Nat.le_of_ble_eq_true rfl) dX12_twoOf_86
                · skip
                  have hc_15 := nleE (a := z_x.toInt) (b := z_y.toInt) rfl rfl c_15
                  refine lv_iconst (pc := 81) (v := 1) E.1 E.2.1 dX12_twoOf_81 (by decide +kernel) ?_
                  refine lv_goto (pc := 82) (tgt := 86) E.1 E.2.1 dX12_twoOf_82 (by decide) ?_
                  exact em_i (w1 := (fun (u : Unit) => (MW cI cJ M mr mi mf mg))) E hr hlk () hw1 trivial (Nat.le_of_ble_eq_true rfl) (Nat.le_of_ble_eq_true rfl) dX12_twoOf_86
            · skip
              have hc_9 := eqE (a := z_what.toInt) (b := 7) rfl (by decide +kernel) c_9
              refine lv_iload_n (pc := 59) E.1 E.2.1 dX12_twoOf_59 rfl (lv_at hl3 2 rfl) ?_
              refine lv_iload_n (pc := 60) E.1 E.2.1 dX12_twoOf_60 rfl (lv_at hl3 3 rfl) ?_
              refine lv_icmp_ne (pc := 61) (tgt := 68) E.1 E.2.1 dX12_twoOf_61 (by decide) (fun c_16 => ?_) (fun c_16 => ?_)
              · skip
                have hc_16 := neE (a := z_x.toInt) (b := z_y.toInt) rfl rfl c_16
                refine lv_iconst (pc := 68) (v := 0) E.1 E.2.1 dX12_twoOf_68 (by decide +kernel) ?_
                exact em_i (w1 := (fun (u : Unit) => (MW cI cJ M mr mi mf mg))) E hr hlk () hw1 trivial (Nat.le_of_ble_eq_true rfl) (Nat.le_of_ble_eq_true rfl) dX12_twoOf_69
              · skip
                have hc_16 := eqE (a := z_x.toInt) (b := z_y.toInt) rfl rfl c_16
                refine lv_iconst (pc := 64) (v := 1) E.1 E.2.1 dX12_twoOf_64 (by decide +kernel) ?_
                refine lv_goto (pc := 65) (tgt := 69) E.1 E.2.1 dX12_twoOf_65 (by decide) ?_
                exact em_i (w1 := (fun (u : Unit) => (MW cI cJ M mr mi mf mg))) E hr hlk () hw1 trivial (Nat.le_of_ble_eq_true rfl) (Nat.le_of_ble_eq_true rfl) dX12_twoOf_69
          · skip
            have hc_8 := eqE (a := z_what.toInt) (b := 6) rfl (by decide +kernel) c_8
            refine lv_iload_n (pc := 42) E.1 E.2.1 dX12_twoOf_42 rfl (lv_at hl3 2 rfl) ?_
            refine lv_iload_n (pc := 43) E.1 E.2.1 dX12_twoOf_43 rfl (lv_at hl3 3 rfl) ?_
            refine lv_icmp_ge (pc := 44) (tgt := 51) E.1 E.2.1 dX12_twoOf_44 (by decide) (fun c_17 => ?_) (fun c_17 => ?_)
            · skip
              have hc_17 := leE (a := z_y.toInt) (b := z_x.toInt) rfl rfl c_17
              refine lv_iconst (pc := 51) (v := 0) E.1 E.2.1 dX12_twoOf_51 (by decide +kernel) ?_
              exact em_i (w1 := (fun (u : Unit) => (MW cI cJ M mr mi mf mg))) E hr hlk () hw1 trivial (Nat.le_of_ble_eq_true rfl) (Nat.le_of_ble_eq_true rfl) dX12_twoOf_52
            · skip
              have hc_17 := nleE (a := z_y.toInt) (b := z_x.toInt) rfl rfl c_17
              refine lv_iconst (pc := 47) (v := 1) E.1 E.2.1 dX12_twoOf_47 (by decide +kernel) ?_
              refine lv_goto (pc := 48) (tgt := 52) E.1 E.2.1 dX12_twoOf_48 (by decide) ?_
              exact em_i (w1 := (fun (u : Unit) => (MW cI cJ M mr mi mf mg))) E hr hlk () hw1 trivial (Nat.le_of_ble_eq_true rfl) (Nat.le_of_ble_eq_true rfl) dX12_twoOf_52
        · skip
          have hc_7 := eqE (a := z_what.toInt) (b := 5) rfl (by decide +kernel) c_7
          have hdv : ¬ z_y.toInt = 0 := x_dv (by omega)
          refine lv_iload_n (pc := 32) E.1 E.2.1 dX12_twoOf_32 rfl (lv_at hl3 2 rfl) ?_
          refine lv_iload_n (pc := 33) E.1 E.2.1 dX12_twoOf_33 rfl (lv_at hl3 3 rfl) ?_
          refine lv_idiv (pc := 34) E.1 E.2.1 dX12_twoOf_34 (mneE (a := z_y.toInt) (b := 0) rfl (by decide +kernel) (by omega)) ?_
          refine lv_topi (fun v_18 ev_18 => ?_)
          exact em_i (w1 := (fun (u : Unit) => (MW cI cJ M mr mi mf mg))) E hr hlk () hw1 trivial (Nat.le_of_ble_eq_true rfl) (Nat.le_of_ble_eq_true rfl) dX12_twoOf_35
      · skip
        have hc_6 := eqE (a := z_what.toInt) (b := 4) rfl (by decide +kernel) c_6
        refine lv_iload_n (pc := 23) E.1 E.2.1 dX12_twoOf_23 rfl (lv_at hl3 2 rfl) ?_
        refine lv_iload_n (pc := 24) E.1 E.2.1 dX12_twoOf_24 rfl (lv_at hl3 3 rfl) ?_
        refine lv_imul (pc := 25) E.1 E.2.1 dX12_twoOf_25 ?_
        refine lv_topi (fun v_19 ev_19 => ?_)
        exact em_i (w1 := (fun (u : Unit) => (MW cI cJ M mr mi mf mg))) E hr hlk () hw1 trivial (Nat.le_of_ble_eq_true rfl) (Nat.le_of_ble_eq_true rfl) dX12_twoOf_26
    · skip
      have hc_5 := eqE (a := z_what.toInt) (b := 3) rfl (by decide +kernel) c_5
      refine lv_iload_n (pc := 14) E.1 E.2.1 dX12_twoOf_14 rfl (lv_at hl3 2 rfl) ?_
      refine lv_iload_n (pc := 15) E.1 E.2.1 dX12_twoOf_15 rfl (lv_at hl3 3 rfl) ?_
      refine lv_isub (pc := 16) E.1 E.2.1 dX12_twoOf_16 ?_
      refine lv_topi (fun v_20 ev_20 => ?_)
      exact em_i (w1 := (fun (u : Unit) => (MW cI cJ M mr mi mf mg))) E hr hlk () hw1 trivial (Nat.le_of_ble_eq_true rfl) (Nat.le_of_ble_eq_true rfl) dX12_twoOf_17
  · skip
    have hc_4 := eqE (a := z_what.toInt) (b := 2) rfl (by decide +kernel) c_4
    refine lv_iload_n (pc := 5) E.1 E.2.1 dX12_twoOf_5 rfl (lv_at hl3 2 rfl) ?_
    refine lv_iload_n (pc := 6) E.1 E.2.1 dX12_twoOf_6 rfl (lv_at hl3 3 rfl) ?_
    refine lv_iadd (pc := 7) E.1 E.2.1 dX12_twoOf_7 ?_
    refine lv_topi (fun v_21 ev_21 => ?_)
    exact em_i (w1 := (fun (u : Unit) => (MW cI cJ M mr mi mf mg))) E hr hlk () hw1 trivial (Nat.le_of_ble_eq_true rfl) (Nat.le_of_ble_eq_true rfl) dX12_twoOf_8

set_option maxHeartbeats 4000000 in
set_option maxRecDepth 100000 in
theorem s_runs0 (l : Launch) (D : va_G) (cI cJ : ClassId) (sz M : Nat) (mr : Nat → Nat) (mi : Nat → Int32) (mf : Nat → Nat → Int32) (mg : Nat → Nat → Int64) (z_first : Int32) (z_behind : Int32) (h0 : 0 ≤ z_first.toInt) (h1 : z_first.toInt ≤ z_behind.toInt) (h2 : z_behind.toInt ≤ 400) (x_dp : DP (mf 31) (mf 32) (0 + z_first.toInt.toNat) (0 + z_behind.toInt.toNat) 1) : Met l yX12_runs (Cond.code yX12_runs cX12_runs 6 (some .int) :: GW) ({ frames := 2, cells := 0, slots := 0, locals := 63 } : Room) (va_Pc [.ref M, .int 0, .int z_first, .int z_behind] (PW D cI cJ sz (MW cI cJ M mr mi mf mg) xT)) (va_Qi (fun (r : Int32) (u : (Nat → Int32)) => True) (fun u => QW D cI cJ (va_A (MW cI cJ M mr mi mf mg) sz) ((fun (u : (Nat → Int32)) => (MW cI cJ M mr mi (va_up mf 54 u) mg)) u)) (va_A (MW cI cJ M mr mi mf mg) sz)) 0 0 (va_A (MW cI cJ M mr mi mf mg) sz) := by
  refine mk_met (y := yX12_runs) (bytes := cX12_runs) (maxL := 6) (avs := [.ref M, .int 0, .int z_first, .int z_behind]) (WS := (MW cI cJ M mr mi mf mg)) (Qf := fun A => va_Qi (fun (r : Int32) (u : (Nat → Int32)) => True) (fun u => QW D cI cJ A ((fun (u : (Nat → Int32)) => (MW cI cJ M mr mi (va_up mf 54 u) mg)) u)) A) (by decide) (Nat.le_of_ble_eq_true rfl) ?_
  intro p e s m below meth c A ls E hr hlk hnm hX hw1 hl2
  have hl3 : lv_has ls 6 [(0, .ref M), (1, .int 0), (2, .int z_first), (3, .int z_behind)] := hl2
  obtain ⟨hdb, hd, hd0, hd1, hd2⟩ := x_dp
  refine lv_iconst (pc := 0) (v := 0) E.1 E.2.1 dX12_runs_0 (by decide +kernel) ?_
  refine lv_istore (pc := 1) (lv' := [(4, .int 0), (0, .ref M), (1, .int 0), (2, .int z_first), (3, .int z_behind)]) E.1 E.2.1 dX12_runs_1 hl3 (by decide) rfl (fun ls hl4 => ?_)
  refine lv_sipush (pc := 3) (v := 400) E.1 E.2.1 dX12_runs_3 (by decide +kernel) ?_
  refine lv_iload_n (pc := 6) E.1 E.2.1 dX12_runs_6 rfl (lv_at hl4 2 rfl) ?_
  refine lv_imul (pc := 7) E.1 E.2.1 dX12_runs_7 ?_
  refine tI (y := 0) (by decide +kernel) ?_
  refine lv_iload_n (pc := 8) E.1 E.2.1 dX12_runs_8 rfl (lv_at hl4 3 rfl) ?_
  refine lv_iadd (pc := 9) E.1 E.2.1 dX12_runs_9 ?_
  refine lv_topi (fun v_5 ev_5 => ?_)
  have hv_5 : v_5.toInt = 0 + z_first.toInt := by rw [ev_5]; exact addE (by decide +kernel) rfl (by omega)
  refine lv_istore (pc := 10) (lv' := [(5, .int v_5), (4, .int 0), (0, .ref M), (1, .int 0), (2, .int z_first), (3, .int z_behind)]) E.1 E.2.1 dX12_runs_10 hl4 (by decide) rfl (fun ls hl6 => ?_)
  have loop_7 : ∀ (k : Nat) (x_8 : Int32) (x_9 : Int32) (g_10 : Nat → Int32) (H : Heap) (locs : List Loc) (ls : Array Slot), (0 + z_first.toInt ≤ x_9.toInt) ∧ (x_9.toInt ≤ 0 + z_behind.toInt) ∧ (0 ≤ x_8.toInt) ∧ (x_8.toInt ≤ x_9.toInt - z_first.toInt - 0) ∧ (x_8.toInt = (hd x_9.toNatClampNeg : Int)) ∧ (0 + z_first.toInt.toNat < x_9.toNatClampNeg → (mf 31) (x_9.toNatClampNeg - 1) = 0 → g_10 (x_8.toNatClampNeg - 1) = (mf 32) (x_9.toNatClampNeg - 1)) → 0 + z_behind.toInt - x_9.toInt < (k : Int) → WD D A s.heap (MW cI cJ M mr mi (va_up mf 54 g_10) mg) H locs → lv_has ls 6 [(5, .int x_9), (4, .int x_8), (0, .ref M), (1, .int 0), (2, .int z_first), (3, .int z_behind)] → W p l e ({ frames := 2, cells := 0, slots := 0, locals := 63 } : Room) s m ([.ref M, .int 0, .int z_first, .int z_behind] : List Value).toArray below meth c H locs 0 0 (MQ below (va_Qi (fun (r : Int32) (u : (Nat → Int32)) => True) (fun u => QW D cI cJ A ((fun (u : (Nat → Int32)) => (MW cI cJ M mr mi (va_up mf 54 u) mg)) u)) A) ([.ref M, .int 0, .int z_first, .int z_behind] : List Value).toArray s 0 0 A) (F0 m 12 ls []) := by
    intro k
    induction k with
    | zero =>
      intro x_8 x_9 g_10 _ _ _ hinv hm
      obtain ⟨hi_10_0, hi_10_1, hi_10_2, hi_10_3, hi_10_4, hi_10_5⟩ := hinv
      exact absurd hm (by omega)
    | succ k ih_11 =>
      intro x_8 x_9 g_10 H locs ls hinv hm hw12 hl13
      obtain ⟨hi_10_0, hi_10_1, hi_10_2, hi_10_3, hi_10_4, hi_10_5⟩ := hinv
      refine lv_iload (pc := 12) E.1 E.2.1 dX12_runs_12 (lv_at hl13 0 rfl) ?_
      refine lv_sipush (pc := 14) (v := 400) E.1 E.2.1 dX12_runs_14 (by decide +kernel) ?_
      refine lv_iload_n (pc := 17) E.1 E.2.1 dX12_runs_17 rfl (lv_at hl13 3 rfl) ?_
      refine lv_imul (pc := 18) E.1 E.2.1 dX12_runs_18 ?_
      refine tI (y := 0) (by decide +kernel) ?_
      refine lv_iload_n (pc := 19) E.1 E.2.1 dX12_runs_19 rfl (lv_at hl13 5 rfl) ?_
      refine lv_iadd (pc := 20) E.1 E.2.1 dX12_runs_20 ?_
      refine lv_topi (fun v_14 ev_14 => ?_)
      have hv_14 : v_14.toInt = 0 + z_behind.toInt := by rw [ev_14]; exact addE (by decide +kernel) rfl (by omega)
      refine lv_icmp_ge (pc := 21) (tgt := 176) E.1 E.2.1 dX12_runs_21 (by decide) (fun c_15 => ?_) (fun c_15 => ?_)
      · skip
        have hc_15 := leE (a := v_14.toInt) (b := x_9.toInt) rfl rfl c_15
        refine lv_aload_n (pc := 176) E.1 E.2.1 dX12_runs_176 rfl (lv_at hl13 2 rfl) ?_
        refine x_get (pc := 177) (T := TX12) (N := 70) (ci := 12) (v := .ref (mr 54)) E hw12 inX12 0 54 q_1453 rfl rfl (by decide) rfl rfl dX12_runs_177 ?_
        refine lv_iconst (pc := 180) (v := 0) E.1 E.2.1 dX12_runs_180 (by decide +kernel) ?_
        refine x_iald (pc := 181) (f := g_10) E hw12 29 rfl (inbE (a := 0) (by decide +kernel) (by omega)) dX12_runs_181 ?_
        refine lv_topi (fun v_16 ev_16 => ?_)
        exact em_i (w1 := (fun (u : (Nat → Int32)) => (MW cI cJ M mr mi (va_up mf 54 u) mg))) E hr hlk g_10 hw12 trivial (Nat.le_of_ble_eq_true rfl) (Nat.le_of_ble_eq_true rfl) dX12_runs_182
      · skip
        have hc_15 := nleE (a := v_14.toInt) (b := x_9.toInt) rfl rfl c_15
        have hk9 := idxI (x := x_9) (by omega)
        have hst := hd2 x_9.toNatClampNeg (by omega) (by omega)
        refine lv_aload_n (pc := 24) E.1 E.2.1 dX12_runs_24 rfl (lv_at hl13 2 rfl) ?_
        refine x_get (pc := 25) (T := TX12) (N := 70) (ci := 12) (v := .ref (mr 31)) E hw12 inX12 0 31 q_1430 rfl rfl (by decide) rfl rfl dX12_runs_25 ?_
        refine lv_iload (pc := 28) E.1 E.2.1 dX12_runs_28 (lv_at hl13 0 rfl) ?_
        refine x_iald (pc := 30) (f := (mf 31)) E hw12 18 rfl (inbE (a := x_9.toInt) rfl (by omega)) dX12_runs_30 ?_
        refine lv_topi (fun v_17 ev_17 => ?_)
        refine lv_if_eq (pc := 31) (tgt := 45) E.1 E.2.1 dX12_runs_31 (by decide) (fun c_18 => ?_) (fun c_18 => ?_)
        · skip
          have hc_18 := eqE (a := v_17.toInt) (b := 0) rfl (by decide +kernel) c_18
          have hu := ST_push hst (Or.inl (cE ev_17 (by have k1 : (0 : Int32).toInt = 0 := (by decide +kernel); omega)))
          refine lv_aload_n (pc := 45) E.1 E.2.1 dX12_runs_45 rfl (lv_at hl13 2 rfl) ?_
          refine x_get (pc := 46) (T := TX12) (N := 70) (ci := 12) (v := .ref (mr 54)) E hw12 inX12 0 54 q_1453 rfl rfl (by decide) rfl rfl dX12_runs_46 ?_
          refine lv_iload (pc := 49) E.1 E.2.1 dX12_runs_49 (lv_at hl13 1 rfl) ?_
          refine lv_aload_n (pc := 51) E.1 E.2.1 dX12_runs_51 rfl (lv_at hl13 2 rfl) ?_
          refine x_get (pc := 52) (T := TX12) (N := 70) (ci := 12) (v := .ref (mr 31)) E hw12 inX12 0 31 q_1430 rfl rfl (by decide) rfl rfl dX12_runs_52 ?_
          refine lv_iload (pc := 55) E.1 E.2.1 dX12_runs_55 (lv_at hl13 0 rfl) ?_
          refine x_iald (pc := 57) (f := (mf 31)) E hw12 18 rfl (inbE (a := x_9.toInt) rfl (by omega)) dX12_runs_57 ?_
          refine lv_topi (fun v_19 ev_19 => ?_)
          have hsv_19 : v_19.toInt = v_17.toInt := by rw [ev_19, ev_17]
          refine lv_if_ne (pc := 58) (tgt := 71) E.1 E.2.1 dX12_runs_58 (by decide) (fun c_20 => absurd (meqE (a := v_19.toInt) (b := 0) rfl (by decide +kernel) (by omega)) c_20) (fun _ => ?_)
          refine lv_aload_n (pc := 61) E.1 E.2.1 dX12_runs_61 rfl (lv_at hl13 2 rfl) ?_
          refine x_get (pc := 62) (T := TX12) (N := 70) (ci := 12) (v := .ref (mr 32)) E hw12 inX12 0 32 q_1431 rfl rfl (by decide) rfl rfl dX12_runs_62 ?_
          refine lv_iload (pc := 65) E.1 E.2.1 dX12_runs_65 (lv_at hl13 0 rfl) ?_
          refine x_iald (pc := 67) (f := (mf 32)) E hw12 19 rfl (inbE (a := x_9.toInt) rfl (by omega)) dX12_runs_67 ?_
          refine lv_topi (fun v_21 ev_21 => ?_)
          refine lv_goto (pc := 68) (tgt := 83) E.1 E.2.1 dX12_runs_68 (by decide) ?_
          refine x_iastG (pc := 83) (f := g_10) (wf := fun g => (MW cI cJ M mr mi (va_up mf 54 g) mg)) E hw12 29 rfl (inbE (a := x_8.toInt) rfl (by omega)) (fun _ => rfl) dX12_runs_83 (fun g_22 H locs eg_22 hw23 => ?_)
          refine lv_iload (pc := 84) E.1 E.2.1 dX12_runs_84 (lv_at hl13 1 rfl) ?_
          refine lv_iconst (pc := 86) (v := 1) E.1 E.2.1 dX12_runs_86 (by decide +kernel) ?_
          refine lv_iadd (pc := 87) E.1 E.2.1 dX12_runs_87 ?_
          refine lv_topi (fun v_24 ev_24 => ?_)
          have hv_24 : v_24.toInt = x_8.toInt + 1 := by rw [ev_24]; exact addE rfl (by decide +kernel) (by omega)
          refine lv_istore (pc := 88) (lv' := [(4, .int v_24), (5, .int x_9), (0, .ref M), (1, .int 0), (2, .int z_first), (3, .int z_behind)]) E.1 E.2.1 dX12_runs_88 hl13 (by decide) rfl (fun ls hl25 => ?_)
          refine lv_goto (pc := 90) (tgt := 170) E.1 E.2.1 dX12_runs_90 (by decide) ?_
          obtain ⟨v_26, ev_26⟩ : ∃ z : Int32, x_9 + Int32.ofInt (1) = z := ⟨_, rfl⟩
          have hv_26 : v_26.toInt = x_9.toInt + (1) := by rw [← ev_26]; exact incE rfl (by decide) (by omega)
          refine lv_iinc (pc := 170) (v := v_26) (lv' := [(5, .int v_26), (4, .int v_24), (0, .ref M), (1, .int 0), (2, .int z_first), (3, .int z_behind)]) E.1 E.2.1 dX12_runs_170 hl25 (k := 1) rfl ev_26 (by decide) rfl (fun ls hl27 => ?_)
          refine lv_goto (pc := 173) (tgt := 12) E.1 E.2.1 dX12_runs_173 (by decide) ?_
          exact ih_11 v_24 v_26 g_22 _ _ _ ⟨(by show 0 + z_first.toInt ≤ v_26.toInt; omega), (by show v_26.toInt ≤ 0 + z_behind.toInt; omega), (by show 0 ≤ v_24.toInt; omega), (by show v_24.toInt ≤ v_26.toInt - z_first.toInt - 0; omega), (by have q1 := idxI (x := v_26) (by omega); have q2 := hi_10_4; rw [show v_26.toNatClampNeg = x_9.toNatClampNeg + 1 from by omega]; omega), (by intro _ _; have q1 := idxI (x := v_26) (by omega); have q2 := idxI (x := v_24) (by omega); have q3 := idxI (x := x_8) (by omega); rw [show v_24.toNatClampNeg - 1 = x_8.toNatClampNeg from by omega, show v_26.toNatClampNeg - 1 = x_9.toNatClampNeg from by omega, eg_22, pk_us]; exact ev_21)⟩ (by omega) hw23 (lv_sub hl27 [0, 1, 2, 3, 4, 5] rfl)
        · skip
          have hc_18 := neE (a := v_17.toInt) (b := 0) rfl (by decide +kernel) c_18
          refine lv_aload_n (pc := 34) E.1 E.2.1 dX12_runs_34 rfl (lv_at hl13 2 rfl) ?_
          refine x_get (pc := 35) (T := TX12) (N := 70) (ci := 12) (v := .ref (mr 31)) E hw12 inX12 0 31 q_1430 rfl rfl (by decide) rfl rfl dX12_runs_35 ?_
          refine lv_iload (pc := 38) E.1 E.2.1 dX12_runs_38 (lv_at hl13 0 rfl) ?_
          refine x_iald (pc := 40) (f := (mf 31)) E hw12 18 rfl (inbE (a := x_9.toInt) rfl (by omega)) dX12_runs_40 ?_
          refine lv_topi (fun v_28 ev_28 => ?_)
          have hsv_28 : v_28.toInt = v_17.toInt := by rw [ev_28, ev_17]
          refine lv_iconst (pc := 41) (v := 1) E.1 E.2.1 dX12_runs_41 (by decide +kernel) ?_
          refine lv_icmp_ne (pc := 42) (tgt := 93) E.1 E.2.1 dX12_runs_42 (by decide) (fun c_29 => ?_) (fun c_29 => ?_)
          · skip
            have hc_29 := neE (a := v_28.toInt) (b := 1) rfl (by decide +kernel) c_29
            refine lv_aload_n (pc := 93) E.1 E.2.1 dX12_runs_93 rfl (lv_at hl13 2 rfl) ?_
            refine x_get (pc := 94) (T := TX12) (N := 70) (ci := 12) (v := .ref (mr 31)) E hw12 inX12 0 31 q_1430 rfl rfl (by decide) rfl rfl dX12_runs_94 ?_
            refine lv_iload (pc := 97) E.1 E.2.1 dX12_runs_97 (lv_at hl13 0 rfl) ?_
            refine x_iald (pc := 99) (f := (mf 31)) E hw12 18 rfl (inbE (a := x_9.toInt) rfl (by omega)) dX12_runs_99 ?_
            refine lv_topi (fun v_30 ev_30 => ?_)
            have hsv_30 : v_30.toInt = v_28.toInt := by rw [ev_30, ev_28]
            refine lv_bipush (pc := 100) (v := 9) E.1 E.2.1 dX12_runs_100 (by decide +kernel) ?_
            refine lv_icmp_ne (pc := 102) (tgt := 128) E.1 E.2.1 dX12_runs_102 (by decide) (fun c_31 => ?_) (fun c_31 => ?_)
            · skip
              have hc_31 := neE (a := v_30.toInt) (b := 9) rfl (by decide +kernel) c_31
              have hu := ST_two hst (nE ev_30 (by have k1 : (0 : Int32).toInt = 0 := (by decide +kernel); omega)) (nE ev_30 (by have k1 : (1 : Int32).toInt = 1 := (by decide +kernel); omega)) (nE ev_30 (by have k1 : (9 : Int32).toInt = 9 := (by decide +kernel); omega))
              have hu1 : 2 ≤ x_8.toInt := by have q := hi_10_4; omega
              refine lv_iload (pc := 128) E.1 E.2.1 dX12_runs_128 (lv_at hl13 1 rfl) ?_
              refine lv_iconst (pc := 130) (v := 1) E.1 E.2.1 dX12_runs_130 (by decide +kernel) ?_
              refine lv_isub (pc := 131) E.1 E.2.1 dX12_runs_131 ?_
              refine lv_topi (fun v_32 ev_32 => ?_)
              have hv_32 : v_32.toInt = x_8.toInt - 1 := by rw [ev_32]; exact subE rfl (by decide +kernel) (by omega)
              refine lv_istore (pc := 132) (lv' := [(4, .int v_32), (5, .int x_9), (0, .ref M), (1, .int 0), (2, .int z_first), (3, .int z_behind)]) E.1 E.2.1 dX12_runs_132 hl13 (by decide) rfl (fun ls hl33 => ?_)
              refine lv_aload_n (pc := 134) E.1 E.2.1 dX12_runs_134 rfl (lv_at hl33 2 rfl) ?_
              refine x_get (pc := 135) (T := TX12) (N := 70) (ci := 12) (v := .ref (mr 54)) E hw12 inX12 0 54 q_1453 rfl rfl (by decide) rfl rfl dX12_runs_135 ?_
              refine lv_iload (pc := 138) E.1 E.2.1 dX12_runs_138 (lv_at hl33 0 rfl) ?_
              refine lv_iconst (pc := 140) (v := 1) E.1 E.2.1 dX12_runs_140 (by decide +kernel) ?_
              refine lv_isub (pc := 141) E.1 E.2.1 dX12_runs_141 ?_
              refine lv_topi (fun v_34 ev_34 => ?_)
              have hv_34 : v_34.toInt = v_32.toInt - 1 := by rw [ev_34]; exact subE rfl (by decide +kernel) (by omega)
              refine lv_aload_n (pc := 142) E.1 E.2.1 dX12_runs_142 rfl (lv_at hl33 2 rfl) ?_
              refine lv_aload_n (pc := 143) E.1 E.2.1 dX12_runs_143 rfl (lv_at hl33 2 rfl) ?_
              refine x_get (pc := 144) (T := TX12) (N := 70) (ci := 12) (v := .ref (mr 31)) E hw12 inX12 0 31 q_1430 rfl rfl (by decide) rfl rfl dX12_runs_144 ?_
              refine lv_iload (pc := 147) E.1 E.2.1 dX12_runs_147 (lv_at hl33 1 rfl) ?_
              refine x_iald (pc := 149) (f := (mf 31)) E hw12 18 rfl (inbE (a := x_9.toInt) rfl (by omega)) dX12_runs_149 ?_
              refine lv_topi (fun v_35 ev_35 => ?_)
              have hsv_35 : v_35.toInt = v_30.toInt := by rw [ev_35, ev_30]
              refine lv_aload_n (pc := 150) E.1 E.2.1 dX12_runs_150 rfl (lv_at hl33 2 rfl) ?_
              refine x_get (pc := 151) (T := TX12) (N := 70) (ci := 12) (v := .ref (mr 54)) E hw12 inX12 0 54 q_1453 rfl rfl (by decide) rfl rfl dX12_runs_151 ?_
              refine lv_iload (pc := 154) E.1 E.2.1 dX12_runs_154 (lv_at hl33 0 rfl) ?_
              refine lv_iconst (pc := 156) (v := 1) E.1 E.2.1 dX12_runs_156 (by decide +kernel) ?_
              refine lv_isub (pc := 157) E.1 E.2.1 dX12_runs_157 ?_
              refine lv_topi (fun v_36 ev_36 => ?_)
              have hv_36 : v_36.toInt = v_32.toInt - 1 := by rw [ev_36]; exact subE rfl (by decide +kernel) (by omega)
              refine x_iald (pc := 158) (f := g_10) E hw12 29 rfl (inbE (a := v_36.toInt) rfl (by omega)) dX12_runs_158 ?_
              refine lv_topi (fun v_37 ev_37 => ?_)
              refine lv_aload_n (pc := 159) E.1 E.2.1 dX12_runs_159 rfl (lv_at hl33 2 rfl) ?_
              refine x_get (pc := 160) (T := TX12) (N := 70) (ci := 12) (v := .ref (mr 54)) E hw12 inX12 0 54 q_1453 rfl rfl (by decide) rfl rfl dX12_runs_160 ?_
              refine lv_iload (pc := 163) E.1 E.2.1 dX12_runs_163 (lv_at hl33 0 rfl) ?_
              refine x_iald (pc := 165) (f := g_10) E hw12 29 rfl (inbE (a := v_32.toInt) rfl (by omega)) dX12_runs_165 ?_
              refine lv_topi (fun v_38 ev_38 => ?_)
              refine cm_i (pc := 166) hw12 (rn_M (As := [.int v_35, .int v_37, .int v_38]) (rest := [.int v_34, .ref (mr 54)]) E hw12 (s_twoOf l D cI cJ _ M mr mi (va_up mf 54 g_10) mg v_35 v_37 v_38 (show (v_35.toInt = 5 → ¬ v_38.toInt = 0) from (fun h5 => run_part hst ev_35 h5 hi_10_5 ev_38 (by omega) (by omega)))) (gdV q_1887 q_1889 q_104 q_162 q_1890) hdV_X12_twoOf ⟨rfl, rfl⟩ ⟨(Nat.le_of_ble_eq_true rfl), (Nat.le_of_ble_eq_true rfl)⟩ ⟨(Nat.le_of_ble_eq_true rfl), (Nat.le_of_ble_eq_true rfl)⟩ 12 rfl rfl rfl rfl hl33.1 rfl (Nat.le_of_ble_eq_true rfl) dX12_runs_166) (fun r_40 u_39 H1 locs hp hw41 => ?_)
              generalize H1 = H at hw41 ⊢
              have hw42 : WD D A s.heap (MW cI cJ M mr mi (va_up mf 54 g_10) mg) H locs := hw41
              refine x_iastG (pc := 169) (f := g_10) (wf := fun g => (MW cI cJ M mr mi (va_up mf 54 g) mg)) E hw42 29 rfl (inbE (a := v_34.toInt) rfl (by omega)) (fun _ => rfl) dX12_runs_169 (fun g_43 H locs eg_43 hw44 => ?_)
              obtain ⟨v_45, ev_45⟩ : ∃ z : Int32, x_9 + Int32.ofInt (1) = z := ⟨_, rfl⟩
              have hv_45 : v_45.toInt = x_9.toInt + (1) := by rw [← ev_45]; exact incE rfl (by decide) (by omega)
              refine lv_iinc (pc := 170) (v := v_45) (lv' := [(5, .int v_45), (4, .int v_32), (0, .ref M), (1, .int 0), (2, .int z_first), (3, .int z_behind)]) E.1 E.2.1 dX12_runs_170 hl33 (k := 1) rfl ev_45 (by decide) rfl (fun ls hl46 => ?_)
              refine lv_goto (pc := 173) (tgt := 12) E.1 E.2.1 dX12_runs_173 (by decide) ?_
              exact ih_11 v_32 v_45 g_43 _ _ _ ⟨(by show 0 + z_first.toInt ≤ v_45.toInt; omega), (by show v_45.toInt ≤ 0 + z_behind.toInt; omega), (by show 0 ≤ v_32.toInt; omega), (by show v_32.toInt ≤ v_45.toInt - z_first.toInt - 0; omega), (by have q1 := idxI (x := v_45) (by omega); have q2 := hi_10_4; rw [show v_45.toNatClampNeg = x_9.toNatClampNeg + 1 from by omega]; omega), (by intro _ h; have q1 := idxI (x := v_45) (by omega); rw [show v_45.toNatClampNeg - 1 = x_9.toNatClampNeg from by omega] at h; exact absurd h (nE ev_35 (by have k1 : (0 : Int32).toInt = 0 := (by decide +kernel); omega)))⟩ (by omega) hw44 (lv_sub hl46 [0, 1, 2, 3, 4, 5] rfl)
            · skip
              have hc_31 := eqE (a := v_30.toInt) (b := 9) rfl (by decide +kernel) c_31
              have hu := ST_not hst (cE ev_30 (by have k1 : (9 : Int32).toInt = 9 := (by decide +kernel); omega))
              have hu1 : 1 ≤ x_8.toInt := by have q := hi_10_4; omega
              refine lv_aload_n (pc := 105) E.1 E.2.1 dX12_runs_105 rfl (lv_at hl13 2 rfl) ?_
              refine x_get (pc := 106) (T := TX12) (N := 70) (ci := 12) (v := .ref (mr 54)) E hw12 inX12 0 54 q_1453 rfl rfl (by decide) rfl rfl dX12_runs_106 ?_
              refine lv_iload (pc := 109) E.1 E.2.1 dX12_runs_109 (lv_at hl13 1 rfl) ?_
              refine lv_iconst (pc := 111) (v := 1) E.1 E.2.1 dX12_runs_111 (by decide +kernel) ?_
              refine lv_isub (pc := 112) E.1 E.2.1 dX12_runs_112 ?_
              refine lv_topi (fun v_47 ev_47 => ?_)
              have hv_47 : v_47.toInt = x_8.toInt - 1 := by rw [ev_47]; exact subE rfl (by decide +kernel) (by omega)
              refine lv_iconst (pc := 113) (v := 1) E.1 E.2.1 dX12_runs_113 (by decide +kernel) ?_
              refine lv_aload_n (pc := 114) E.1 E.2.1 dX12_runs_114 rfl (lv_at hl13 2 rfl) ?_
              refine x_get (pc := 115) (T := TX12) (N := 70) (ci := 12) (v := .ref (mr 54)) E hw12 inX12 0 54 q_1453 rfl rfl (by decide) rfl rfl dX12_runs_115 ?_
              refine lv_iload (pc := 118) E.1 E.2.1 dX12_runs_118 (lv_at hl13 1 rfl) ?_
              refine lv_iconst (pc := 120) (v := 1) E.1 E.2.1 dX12_runs_120 (by decide +kernel) ?_
              refine lv_isub (pc := 121) E.1 E.2.1 dX12_runs_121 ?_
              refine lv_topi (fun v_48 ev_48 => ?_)
              have hv_48 : v_48.toInt = x_8.toInt - 1 := by rw [ev_48]; exact subE rfl (by decide +kernel) (by omega)
              refine x_iald (pc := 122) (f := g_10) E hw12 29 rfl (inbE (a := v_48.toInt) rfl (by omega)) dX12_runs_122 ?_
              refine lv_topi (fun v_49 ev_49 => ?_)
              refine lv_isub (pc := 123) E.1 E.2.1 dX12_runs_123 ?_
              refine lv_topi (fun v_50 ev_50 => ?_)
              refine x_iastG (pc := 124) (f := g_10) (wf := fun g => (MW cI cJ M mr mi (va_up mf 54 g) mg)) E hw12 29 rfl (inbE (a := v_47.toInt) rfl (by omega)) (fun _ => rfl) dX12_runs_124 (fun g_51 H locs eg_51 hw52 => ?_)
              refine lv_goto (pc := 125) (tgt := 170) E.1 E.2.1 dX12_runs_125 (by decide) ?_
              obtain ⟨v_53, ev_53⟩ : ∃ z : Int32, x_9 + Int32.ofInt (1) = z := ⟨_, rfl⟩
              have hv_53 : v_53.toInt = x_9.toInt + (1) := by rw [← ev_53]; exact incE rfl (by decide) (by omega)
              refine lv_iinc (pc := 170) (v := v_53) (lv' := [(5, .int v_53), (4, .int x_8), (0, .ref M), (1, .int 0), (2, .int z_first), (3, .int z_behind)]) E.1 E.2.1 dX12_runs_170 hl13 (k := 0) rfl ev_53 (by decide) rfl (fun ls hl54 => ?_)
              refine lv_goto (pc := 173) (tgt := 12) E.1 E.2.1 dX12_runs_173 (by decide) ?_
              exact ih_11 x_8 v_53 g_51 _ _ _ ⟨(by show 0 + z_first.toInt ≤ v_53.toInt; omega), (by show v_53.toInt ≤ 0 + z_behind.toInt; omega), hi_10_2, (by show x_8.toInt ≤ v_53.toInt - z_first.toInt - 0; omega), (by have q1 := idxI (x := v_53) (by omega); have q2 := hi_10_4; rw [show v_53.toNatClampNeg = x_9.toNatClampNeg + 1 from by omega]; omega), (by intro _ h; have q1 := idxI (x := v_53) (by omega); rw [show v_53.toNatClampNeg - 1 = x_9.toNatClampNeg from by omega] at h; exact absurd h (nE ev_30 (by have k1 : (0 : Int32).toInt = 0 := (by decide +kernel); omega)))⟩ (by omega) hw52 (lv_sub hl54 [0, 1, 2, 3, 4, 5] rfl)
          · skip
            have hc_29 := eqE (a := v_28.toInt) (b := 1) rfl (by decide +kernel) c_29
            have hu := ST_push hst (Or.inr (cE ev_28 (by have k1 : (1 : Int32).toInt = 1 := (by decide +kernel); omega)))
            refine lv_aload_n (pc := 45) E.1 E.2.1 dX12_runs_45 rfl (lv_at hl13 2 rfl) ?_
            refine x_get (pc := 46) (T := TX12) (N := 70) (ci := 12) (v := .ref (mr 54)) E hw12 inX12 0 54 q_1453 rfl rfl (by decide) rfl rfl dX12_runs_46 ?_
            refine lv_iload (pc := 49) E.1 E.2.1 dX12_runs_49 (lv_at hl13 1 rfl) ?_
            refine lv_aload_n (pc := 51) E.1 E.2.1 dX12_runs_51 rfl (lv_at hl13 2 rfl) ?_
            refine x_get (pc := 52) (T := TX12) (N := 70) (ci := 12) (v := .ref (mr 31)) E hw12 inX12 0 31 q_1430 rfl rfl (by decide) rfl rfl dX12_runs_52 ?_
            refine lv_iload (pc := 55) E.1 E.2.1 dX12_runs_55 (lv_at hl13 0 rfl) ?_
            refine x_iald (pc := 57) (f := (mf 31)) E hw12 18 rfl (inbE (a := x_9.toInt) rfl (by omega)) dX12_runs_57 ?_
            refine lv_topi (fun v_55 ev_55 => ?_)
            have hsv_55 : v_55.toInt = v_28.toInt := by rw [ev_55, ev_28]
            refine lv_if_ne (pc := 58) (tgt := 71) E.1 E.2.1 dX12_runs_58 (by decide) (fun _ => ?_) (fun c_56 => absurd c_56 (mneE (a := v_55.toInt) (b := 0) rfl (by decide +kernel) (by omega)))
            refine lv_aload_n (pc := 71) E.1 E.2.1 dX12_runs_71 rfl (lv_at hl13 2 rfl) ?_
            refine x_get (pc := 72) (T := TX12) (N := 70) (ci := 12) (v := .ref (mr 53)) E hw12 inX12 0 53 q_1452 rfl rfl (by decide) rfl rfl dX12_runs_72 ?_
            refine lv_aload_n (pc := 75) E.1 E.2.1 dX12_runs_75 rfl (lv_at hl13 2 rfl) ?_
            refine x_get (pc := 76) (T := TX12) (N := 70) (ci := 12) (v := .ref (mr 32)) E hw12 inX12 0 32 q_1431 rfl rfl (by decide) rfl rfl dX12_runs_76 ?_
            refine lv_iload (pc := 79) E.1 E.2.1 dX12_runs_79 (lv_at hl13 0 rfl) ?_
            refine x_iald (pc := 81) (f := (mf 32)) E hw12 19 rfl (inbE (a := x_9.toInt) rfl (by omega)) dX12_runs_81 ?_
            refine lv_topi (fun v_57 ev_57 => ?_)
            have hak := ST_ask hst (cE ev_55 (by have k1 : (1 : Int32).toInt = 1 := (by decide +kernel); omega))
            have hak2 : 0 ≤ v_57.toInt ∧ v_57.toInt ≤ 9 := by rw [ev_57]; exact hak
            refine x_iald (pc := 82) (f := (mf 53)) E hw12 28 rfl (inbE (a := v_57.toInt) rfl (by omega)) dX12_runs_82 ?_
            refine lv_topi (fun v_58 ev_58 => ?_)
            refine x_iastG (pc := 83) (f := g_10) (wf := fun g => (MW cI cJ M mr mi (va_up mf 54 g) mg)) E hw12 29 rfl (inbE (a := x_8.toInt) rfl (by omega)) (fun _ => rfl) dX12_runs_83 (fun g_59 H locs eg_59 hw60 => ?_)
            refine lv_iload (pc := 84) E.1 E.2.1 dX12_runs_84 (lv_at hl13 1 rfl) ?_
            refine lv_iconst (pc := 86) (v := 1) E.1 E.2.1 dX12_runs_86 (by decide +kernel) ?_
            refine lv_iadd (pc := 87) E.1 E.2.1 dX12_runs_87 ?_
            refine lv_topi (fun v_61 ev_61 => ?_)
            have hv_61 : v_61.toInt = x_8.toInt + 1 := by rw [ev_61]; exact addE rfl (by decide +kernel) (by omega)
            refine lv_istore (pc := 88) (lv' := [(4, .int v_61), (5, .int x_9), (0, .ref M), (1, .int 0), (2, .int z_first), (3, .int z_behind)]) E.1 E.2.1 dX12_runs_88 hl13 (by decide) rfl (fun ls hl62 => ?_)
            refine lv_goto (pc := 90) (tgt := 170) E.1 E.2.1 dX12_runs_90 (by decide) ?_
            obtain ⟨v_63, ev_63⟩ : ∃ z : Int32, x_9 + Int32.ofInt (1) = z := ⟨_, rfl⟩
            have hv_63 : v_63.toInt = x_9.toInt + (1) := by rw [← ev_63]; exact incE rfl (by decide) (by omega)
            refine lv_iinc (pc := 170) (v := v_63) (lv' := [(5, .int v_63), (4, .int v_61), (0, .ref M), (1, .int 0), (2, .int z_first), (3, .int z_behind)]) E.1 E.2.1 dX12_runs_170 hl62 (k := 1) rfl ev_63 (by decide) rfl (fun ls hl64 => ?_)
            refine lv_goto (pc := 173) (tgt := 12) E.1 E.2.1 dX12_runs_173 (by decide) ?_
            exact ih_11 v_61 v_63 g_59 _ _ _ ⟨(by show 0 + z_first.toInt ≤ v_63.toInt; omega), (by show v_63.toInt ≤ 0 + z_behind.toInt; omega), (by show 0 ≤ v_61.toInt; omega), (by show v_61.toInt ≤ v_63.toInt - z_first.toInt - 0; omega), (by have q1 := idxI (x := v_63) (by omega); have q2 := hi_10_4; rw [show v_63.toNatClampNeg = x_9.toNatClampNeg + 1 from by omega]; omega), (by intro _ h; have q1 := idxI (x := v_63) (by omega); rw [show v_63.toNatClampNeg - 1 = x_9.toNatClampNeg from by omega] at h; exact absurd h (nE ev_55 (by have k1 : (0 : Int32).toInt = 0 := (by decide +kernel); omega)))⟩ (by omega) hw60 (lv_sub hl64 [0, 1, 2, 3, 4, 5] rfl)
  exact loop_7 (Int.toNat (0 + z_behind.toInt - v_5.toInt) + 1) 0 v_5 (mf 54) _ _ _ ⟨(by show 0 + z_first.toInt ≤ v_5.toInt; omega), (by show v_5.toInt ≤ 0 + z_behind.toInt; omega), (by show 0 ≤ (0 : Int32).toInt; have k_0 : (0 : Int32).toInt = 0 := (by decide +kernel); omega), (by show (0 : Int32).toInt ≤ v_5.toInt - z_first.toInt - 0; have k_0 : (0 : Int32).toInt = 0 := (by decide +kernel); omega), (by have q1 := idxI (x := v_5) (by omega); rw [show v_5.toNatClampNeg = 0 + z_first.toInt.toNat from by omega, hd0]; decide +kernel), (fun h => absurd h (by have q1 := idxI (x := v_5) (by omega); omega))⟩ (by have k_0 : (0 : Int32).toInt = 0 := (by decide +kernel); omega) hw1 (lv_sub hl6 [0, 1, 2, 3, 4, 5] rfl)

set_option maxHeartbeats 4000000 in
set_option maxRecDepth 100000 in
theorem s_runs1 (l : Launch) (D : va_G) (cI cJ : ClassId) (sz M : Nat) (mr : Nat → Nat) (mi : Nat → Int32) (mf : Nat → Nat → Int32) (mg : Nat → Nat → Int64) (z_first : Int32) (z_behind : Int32) (h0 : 0 ≤ z_first.toInt) (h1 : z_first.toInt ≤ z_behind.toInt) (h2 : z_behind.toInt ≤ 400) (x_dp : DP (mf 31) (mf 32) (400 + z_first.toInt.toNat) (400 + z_behind.toInt.toNat) 1) : Met l yX12_runs (Cond.code yX12_runs cX12_runs 6 (some .int) :: GW) ({ frames := 2, cells := 0, slots := 0, locals := 63 } : Room) (va_Pc [.ref M, .int 1, .int z_first, .int z_behind] (PW D cI cJ sz (MW cI cJ M mr mi mf mg) xT)) (va_Qi (fun (r : Int32) (u : (Nat → Int32)) => True) (fun u => QW D cI cJ (va_A (MW cI cJ M mr mi mf mg) sz) ((fun (u : (Nat → Int32)) => (MW cI cJ M mr mi (va_up mf 54 u) mg)) u)) (va_A (MW cI cJ M mr mi mf mg) sz)) 0 0 (va_A (MW cI cJ M mr mi mf mg) sz) := by
  refine mk_met (y := yX12_runs) (bytes := cX12_runs) (maxL := 6) (avs := [.ref M, .int 1, .int z_first, .int z_behind]) (WS := (MW cI cJ M mr mi mf mg)) (Qf := fun A => va_Qi (fun (r : Int32) (u : (Nat → Int32)) => True) (fun u => QW D cI cJ A ((fun (u : (Nat → Int32)) => (MW cI cJ M mr mi (va_up mf 54 u) mg)) u)) A) (by decide) (Nat.le_of_ble_eq_true rfl) ?_
  intro p e s m below meth c A ls E hr hlk hnm hX hw1 hl2
  have hl3 : lv_has ls 6 [(0, .ref M), (1, .int 1), (2, .int z_first), (3, .int z_behind)] := hl2
  obtain ⟨hdb, hd, hd0, hd1, hd2⟩ := x_dp
  refine lv_iconst (pc := 0) (v := 0) E.1 E.2.1 dX12_runs_0 (by decide +kernel) ?_
  refine lv_istore (pc := 1) (lv' := [(4, .int 0), (0, .ref M), (1, .int 1), (2, .int z_first), (3, .int z_behind)]) E.1 E.2.1 dX12_runs_1 hl3 (by decide) rfl (fun ls hl4 => ?_)
  refine lv_sipush (pc := 3) (v := 400) E.1 E.2.1 dX12_runs_3 (by decide +kernel) ?_
  refine lv_iload_n (pc := 6) E.1 E.2.1 dX12_runs_6 rfl (lv_at hl4 2 rfl) ?_
  refine lv_imul (pc := 7) E.1 E.2.1 dX12_runs_7 ?_
  refine tI (y := 400) (by decide +kernel) ?_
  refine lv_iload_n (pc := 8) E.1 E.2.1 dX12_runs_8 rfl (lv_at hl4 3 rfl) ?_
  refine lv_iadd (pc := 9) E.1 E.2.1 dX12_runs_9 ?_
  refine lv_topi (fun v_5 ev_5 => ?_)
  have hv_5 : v_5.toInt = 400 + z_first.toInt := by rw [ev_5]; exact addE (by decide +kernel) rfl (by omega)
  refine lv_istore (pc := 10) (lv' := [(5, .int v_5), (4, .int 0), (0, .ref M), (1, .int 1), (2, .int z_first), (3, .int z_behind)]) E.1 E.2.1 dX12_runs_10 hl4 (by decide) rfl (fun ls hl6 => ?_)
  have loop_7 : ∀ (k : Nat) (x_8 : Int32) (x_9 : Int32) (g_10 : Nat → Int32) (H : Heap) (locs : List Loc) (ls : Array Slot), (400 + z_first.toInt ≤ x_9.toInt) ∧ (x_9.toInt ≤ 400 + z_behind.toInt) ∧ (0 ≤ x_8.toInt) ∧ (x_8.toInt ≤ x_9.toInt - z_first.toInt - 400) ∧ (x_8.toInt = (hd x_9.toNatClampNeg : Int)) ∧ (400 + z_first.toInt.toNat < x_9.toNatClampNeg → (mf 31) (x_9.toNatClampNeg - 1) = 0 → g_10 (x_8.toNatClampNeg - 1) = (mf 32) (x_9.toNatClampNeg - 1)) → 400 + z_behind.toInt - x_9.toInt < (k : Int) → WD D A s.heap (MW cI cJ M mr mi (va_up mf 54 g_10) mg) H locs → lv_has ls 6 [(5, .int x_9), (4, .int x_8), (0, .ref M), (1, .int 1), (2, .int z_first), (3, .int z_behind)] → W p l e ({ frames := 2, cells := 0, slots := 0, locals := 63 } : Room) s m ([.ref M, .int 1, .int z_first, .int z_behind] : List Value).toArray below meth c H locs 0 0 (MQ below (va_Qi (fun (r : Int32) (u : (Nat → Int32)) => True) (fun u => QW D cI cJ A ((fun (u : (Nat → Int32)) => (MW cI cJ M mr mi (va_up mf 54 u) mg)) u)) A) ([.ref M, .int 1, .int z_first, .int z_behind] : List Value).toArray s 0 0 A) (F0 m 12 ls []) := by
    intro k
    induction k with
    | zero =>
      intro x_8 x_9 g_10 _ _ _ hinv hm
      obtain ⟨hi_10_0, hi_10_1, hi_10_2, hi_10_3, hi_10_4, hi_10_5⟩ := hinv
      exact absurd hm (by omega)
    | succ k ih_11 =>
      intro x_8 x_9 g_10 H locs ls hinv hm hw12 hl13
      obtain ⟨hi_10_0, hi_10_1, hi_10_2, hi_10_3, hi_10_4, hi_10_5⟩ := hinv
      refine lv_iload (pc := 12) E.1 E.2.1 dX12_runs_12 (lv_at hl13 0 rfl) ?_
      refine lv_sipush (pc := 14) (v := 400) E.1 E.2.1 dX12_runs_14 (by decide +kernel) ?_
      refine lv_iload_n (pc := 17) E.1 E.2.1 dX12_runs_17 rfl (lv_at hl13 3 rfl) ?_
      refine lv_imul (pc := 18) E.1 E.2.1 dX12_runs_18 ?_
      refine tI (y := 400) (by decide +kernel) ?_
      refine lv_iload_n (pc := 19) E.1 E.2.1 dX12_runs_19 rfl (lv_at hl13 5 rfl) ?_
      refine lv_iadd (pc := 20) E.1 E.2.1 dX12_runs_20 ?_
      refine lv_topi (fun v_14 ev_14 => ?_)
      have hv_14 : v_14.toInt = 400 + z_behind.toInt := by rw [ev_14]; exact addE (by decide +kernel) rfl (by omega)
      refine lv_icmp_ge (pc := 21) (tgt := 176) E.1 E.2.1 dX12_runs_21 (by decide) (fun c_15 => ?_) (fun c_15 => ?_)
      · skip
        have hc_15 := leE (a := v_14.toInt) (b := x_9.toInt) rfl rfl c_15
        refine lv_aload_n (pc := 176) E.1 E.2.1 dX12_runs_176 rfl (lv_at hl13 2 rfl) ?_
        refine x_get (pc := 177) (T := TX12) (N := 70) (ci := 12) (v := .ref (mr 54)) E hw12 inX12 0 54 q_1453 rfl rfl (by decide) rfl rfl dX12_runs_177 ?_
        refine lv_iconst (pc := 180) (v := 0) E.1 E.2.1 dX12_runs_180 (by decide +kernel) ?_
        refine x_iald (pc := 181) (f := g_10) E hw12 29 rfl (inbE (a := 0) (by decide +kernel) (by omega)) dX12_runs_181 ?_
        refine lv_topi (fun v_16 ev_16 => ?_)
        exact em_i (w1 := (fun (u : (Nat → Int32)) => (MW cI cJ M mr mi (va_up mf 54 u) mg))) E hr hlk g_10 hw12 trivial (Nat.le_of_ble_eq_true rfl) (Nat.le_of_ble_eq_true rfl) dX12_runs_182
      · skip
        have hc_15 := nleE (a := v_14.toInt) (b := x_9.toInt) rfl rfl c_15
        have hk9 := idxI (x := x_9) (by omega)
        have hst := hd2 x_9.toNatClampNeg (by omega) (by omega)
        refine lv_aload_n (pc := 24) E.1 E.2.1 dX12_runs_24 rfl (lv_at hl13 2 rfl) ?_
        refine x_get (pc := 25) (T := TX12) (N := 70) (ci := 12) (v := .ref (mr 31)) E hw12 inX12 0 31 q_1430 rfl rfl (by decide) rfl rfl dX12_runs_25 ?_
        refine lv_iload (pc := 28) E.1 E.2.1 dX12_runs_28 (lv_at hl13 0 rfl) ?_
        refine x_iald (pc := 30) (f := (mf 31)) E hw12 18 rfl (inbE (a := x_9.toInt) rfl (by omega)) dX12_runs_30 ?_
        refine lv_topi (fun v_17 ev_17 => ?_)
        refine lv_if_eq (pc := 31) (tgt := 45) E.1 E.2.1 dX12_runs_31 (by decide) (fun c_18 => ?_) (fun c_18 => ?_)
        · skip
          have hc_18 := eqE (a := v_17.toInt) (b := 0) rfl (by decide +kernel) c_18
          have hu := ST_push hst (Or.inl (cE ev_17 (by have k1 : (0 : Int32).toInt = 0 := (by decide +kernel); omega)))
          refine lv_aload_n (pc := 45) E.1 E.2.1 dX12_runs_45 rfl (lv_at hl13 2 rfl) ?_
          refine x_get (pc := 46) (T := TX12) (N := 70) (ci := 12) (v := .ref (mr 54)) E hw12 inX12 0 54 q_1453 rfl rfl (by decide) rfl rfl dX12_runs_46 ?_
          refine lv_iload (pc := 49) E.1 E.2.1 dX12_runs_49 (lv_at hl13 1 rfl) ?_
          refine lv_aload_n (pc := 51) E.1 E.2.1 dX12_runs_51 rfl (lv_at hl13 2 rfl) ?_
          refine x_get (pc := 52) (T := TX12) (N := 70) (ci := 12) (v := .ref (mr 31)) E hw12 inX12 0 31 q_1430 rfl rfl (by decide) rfl rfl dX12_runs_52 ?_
          refine lv_iload (pc := 55) E.1 E.2.1 dX12_runs_55 (lv_at hl13 0 rfl) ?_
          refine x_iald (pc := 57) (f := (mf 31)) E hw12 18 rfl (inbE (a := x_9.toInt) rfl (by omega)) dX12_runs_57 ?_
          refine lv_topi (fun v_19 ev_19 => ?_)
          have hsv_19 : v_19.toInt = v_17.toInt := by rw [ev_19, ev_17]
          refine lv_if_ne (pc := 58) (tgt := 71) E.1 E.2.1 dX12_runs_58 (by decide) (fun c_20 => absurd (meqE (a := v_19.toInt) (b := 0) rfl (by decide +kernel) (by omega)) c_20) (fun _ => ?_)
          refine lv_aload_n (pc := 61) E.1 E.2.1 dX12_runs_61 rfl (lv_at hl13 2 rfl) ?_
          refine x_get (pc := 62) (T := TX12) (N := 70) (ci := 12) (v := .ref (mr 32)) E hw12 inX12 0 32 q_1431 rfl rfl (by decide) rfl rfl dX12_runs_62 ?_
          refine lv_iload (pc := 65) E.1 E.2.1 dX12_runs_65 (lv_at hl13 0 rfl) ?_
          refine x_iald (pc := 67) (f := (mf 32)) E hw12 19 rfl (inbE (a := x_9.toInt) rfl (by omega)) dX12_runs_67 ?_
          refine lv_topi (fun v_21 ev_21 => ?_)
          refine lv_goto (pc := 68) (tgt := 83) E.1 E.2.1 dX12_runs_68 (by decide) ?_
          refine x_iastG (pc := 83) (f := g_10) (wf := fun g => (MW cI cJ M mr mi (va_up mf 54 g) mg)) E hw12 29 rfl (inbE (a := x_8.toInt) rfl (by omega)) (fun _ => rfl) dX12_runs_83 (fun g_22 H locs eg_22 hw23 => ?_)
          refine lv_iload (pc := 84) E.1 E.2.1 dX12_runs_84 (lv_at hl13 1 rfl) ?_
          refine lv_iconst (pc := 86) (v := 1) E.1 E.2.1 dX12_runs_86 (by decide +kernel) ?_
          refine lv_iadd (pc := 87) E.1 E.2.1 dX12_runs_87 ?_
          refine lv_topi (fun v_24 ev_24 => ?_)
          have hv_24 : v_24.toInt = x_8.toInt + 1 := by rw [ev_24]; exact addE rfl (by decide +kernel) (by omega)
          refine lv_istore (pc := 88) (lv' := [(4, .int v_24), (5, .int x_9), (0, .ref M), (1, .int 1), (2, .int z_first), (3, .int z_behind)]) E.1 E.2.1 dX12_runs_88 hl13 (by decide) rfl (fun ls hl25 => ?_)
          refine lv_goto (pc := 90) (tgt := 170) E.1 E.2.1 dX12_runs_90 (by decide) ?_
          obtain ⟨v_26, ev_26⟩ : ∃ z : Int32, x_9 + Int32.ofInt (1) = z := ⟨_, rfl⟩
          have hv_26 : v_26.toInt = x_9.toInt + (1) := by rw [← ev_26]; exact incE rfl (by decide) (by omega)
          refine lv_iinc (pc := 170) (v := v_26) (lv' := [(5, .int v_26), (4, .int v_24), (0, .ref M), (1, .int 1), (2, .int z_first), (3, .int z_behind)]) E.1 E.2.1 dX12_runs_170 hl25 (k := 1) rfl ev_26 (by decide) rfl (fun ls hl27 => ?_)
          refine lv_goto (pc := 173) (tgt := 12) E.1 E.2.1 dX12_runs_173 (by decide) ?_
          exact ih_11 v_24 v_26 g_22 _ _ _ ⟨(by show 400 + z_first.toInt ≤ v_26.toInt; omega), (by show v_26.toInt ≤ 400 + z_behind.toInt; omega), (by show 0 ≤ v_24.toInt; omega), (by show v_24.toInt ≤ v_26.toInt - z_first.toInt - 400; omega), (by have q1 := idxI (x := v_26) (by omega); have q2 := hi_10_4; rw [show v_26.toNatClampNeg = x_9.toNatClampNeg + 1 from by omega]; omega), (by intro _ _; have q1 := idxI (x := v_26) (by omega); have q2 := idxI (x := v_24) (by omega); have q3 := idxI (x := x_8) (by omega); rw [show v_24.toNatClampNeg - 1 = x_8.toNatClampNeg from by omega, show v_26.toNatClampNeg - 1 = x_9.toNatClampNeg from by omega, eg_22, pk_us]; exact ev_21)⟩ (by omega) hw23 (lv_sub hl27 [0, 1, 2, 3, 4, 5] rfl)
        · skip
          have hc_18 := neE (a := v_17.toInt) (b := 0) rfl (by decide +kernel) c_18
          refine lv_aload_n (pc := 34) E.1 E.2.1 dX12_runs_34 rfl (lv_at hl13 2 rfl) ?_
          refine x_get (pc := 35) (T := TX12) (N := 70) (ci := 12) (v := .ref (mr 31)) E hw12 inX12 0 31 q_1430 rfl rfl (by decide) rfl rfl dX12_runs_35 ?_
          refine lv_iload (pc := 38) E.1 E.2.1 dX12_runs_38 (lv_at hl13 0 rfl) ?_
          refine x_iald (pc := 40) (f := (mf 31)) E hw12 18 rfl (inbE (a := x_9.toInt) rfl (by omega)) dX12_runs_40 ?_
          refine lv_topi (fun v_28 ev_28 => ?_)
          have hsv_28 : v_28.toInt = v_17.toInt := by rw [ev_28, ev_17]
          refine lv_iconst (pc := 41) (v := 1) E.1 E.2.1 dX12_runs_41 (by decide +kernel) ?_
          refine lv_icmp_ne (pc := 42) (tgt := 93) E.1 E.2.1 dX12_runs_42 (by decide) (fun c_29 => ?_) (fun c_29 => ?_)
          · skip
            have hc_29 := neE (a := v_28.toInt) (b := 1) rfl (by decide +kernel) c_29
            refine lv_aload_n (pc := 93) E.1 E.2.1 dX12_runs_93 rfl (lv_at hl13 2 rfl) ?_
            refine x_get (pc := 94) (T := TX12) (N := 70) (ci := 12) (v := .ref (mr 31)) E hw12 inX12 0 31 q_1430 rfl rfl (by decide) rfl rfl dX12_runs_94 ?_
            refine lv_iload (pc := 97) E.1 E.2.1 dX12_runs_97 (lv_at hl13 0 rfl) ?_
            refine x_iald (pc := 99) (f := (mf 31)) E hw12 18 rfl (inbE (a := x_9.toInt) rfl (by omega)) dX12_runs_99 ?_
            refine lv_topi (fun v_30 ev_30 => ?_)
            have hsv_30 : v_30.toInt = v_28.toInt := by rw [ev_30, ev_28]
            refine lv_bipush (pc := 100) (v := 9) E.1 E.2.1 dX12_runs_100 (by decide +kernel) ?_
            refine lv_icmp_ne (pc := 102) (tgt := 128) E.1 E.2.1 dX12_runs_102 (by decide) (fun c_31 => ?_) (fun c_31 => ?_)
            · skip
              have hc_31 := neE (a := v_30.toInt) (b := 9) rfl (by decide +kernel) c_31
              have hu := ST_two hst (nE ev_30 (by have k1 : (0 : Int32).toInt = 0 := (by decide +kernel); omega)) (nE ev_30 (by have k1 : (1 : Int32).toInt = 1 := (by decide +kernel); omega)) (nE ev_30 (by have k1 : (9 : Int32).toInt = 9 := (by decide +kernel); omega))
              have hu1 : 2 ≤ x_8.toInt := by have q := hi_10_4; omega
              refine lv_iload (pc := 128) E.1 E.2.1 dX12_runs_128 (lv_at hl13 1 rfl) ?_
              refine lv_iconst (pc := 130) (v := 1) E.1 E.2.1 dX12_runs_130 (by decide +kernel) ?_
              refine lv_isub (pc := 131) E.1 E.2.1 dX12_runs_131 ?_
              refine lv_topi (fun v_32 ev_32 => ?_)
              have hv_32 : v_32.toInt = x_8.toInt - 1 := by rw [ev_32]; exact subE rfl (by decide +kernel) (by omega)
              refine lv_istore (pc := 132) (lv' := [(4, .int v_32), (5, .int x_9), (0, .ref M), (1, .int 1), (2, .int z_first), (3, .int z_behind)]) E.1 E.2.1 dX12_runs_132 hl13 (by decide) rfl (fun ls hl33 => ?_)
              refine lv_aload_n (pc := 134) E.1 E.2.1 dX12_runs_134 rfl (lv_at hl33 2 rfl) ?_
              refine x_get (pc := 135) (T := TX12) (N := 70) (ci := 12) (v := .ref (mr 54)) E hw12 inX12 0 54 q_1453 rfl rfl (by decide) rfl rfl dX12_runs_135 ?_
              refine lv_iload (pc := 138) E.1 E.2.1 dX12_runs_138 (lv_at hl33 0 rfl) ?_
              refine lv_iconst (pc := 140) (v := 1) E.1 E.2.1 dX12_runs_140 (by decide +kernel) ?_
              refine lv_isub (pc := 141) E.1 E.2.1 dX12_runs_141 ?_
              refine lv_topi (fun v_34 ev_34 => ?_)
              have hv_34 : v_34.toInt = v_32.toInt - 1 := by rw [ev_34]; exact subE rfl (by decide +kernel) (by omega)
              refine lv_aload_n (pc := 142) E.1 E.2.1 dX12_runs_142 rfl (lv_at hl33 2 rfl) ?_
              refine lv_aload_n (pc := 143) E.1 E.2.1 dX12_runs_143 rfl (lv_at hl33 2 rfl) ?_
              refine x_get (pc := 144) (T := TX12) (N := 70) (ci := 12) (v := .ref (mr 31)) E hw12 inX12 0 31 q_1430 rfl rfl (by decide) rfl rfl dX12_runs_144 ?_
              refine lv_iload (pc := 147) E.1 E.2.1 dX12_runs_147 (lv_at hl33 1 rfl) ?_
              refine x_iald (pc := 149) (f := (mf 31)) E hw12 18 rfl (inbE (a := x_9.toInt) rfl (by omega)) dX12_runs_149 ?_
              refine lv_topi (fun v_35 ev_35 => ?_)
              have hsv_35 : v_35.toInt = v_30.toInt := by rw [ev_35, ev_30]
              refine lv_aload_n (pc := 150) E.1 E.2.1 dX12_runs_150 rfl (lv_at hl33 2 rfl) ?_
              refine x_get (pc := 151) (T := TX12) (N := 70) (ci := 12) (v := .ref (mr 54)) E hw12 inX12 0 54 q_1453 rfl rfl (by decide) rfl rfl dX12_runs_151 ?_
              refine lv_iload (pc := 154) E.1 E.2.1 dX12_runs_154 (lv_at hl33 0 rfl) ?_
              refine lv_iconst (pc := 156) (v := 1) E.1 E.2.1 dX12_runs_156 (by decide +kernel) ?_
              refine lv_isub (pc := 157) E.1 E.2.1 dX12_runs_157 ?_
              refine lv_topi (fun v_36 ev_36 => ?_)
              have hv_36 : v_36.toInt = v_32.toInt - 1 := by rw [ev_36]; exact subE rfl (by decide +kernel) (by omega)
              refine x_iald (pc := 158) (f := g_10) E hw12 29 rfl (inbE (a := v_36.toInt) rfl (by omega)) dX12_runs_158 ?_
              refine lv_topi (fun v_37 ev_37 => ?_)
              refine lv_aload_n (pc := 159) E.1 E.2.1 dX12_runs_159 rfl (lv_at hl33 2 rfl) ?_
              refine x_get (pc := 160) (T := TX12) (N := 70) (ci := 12) (v := .ref (mr 54)) E hw12 inX12 0 54 q_1453 rfl rfl (by decide) rfl rfl dX12_runs_160 ?_
              refine lv_iload (pc := 163) E.1 E.2.1 dX12_runs_163 (lv_at hl33 0 rfl) ?_
              refine x_iald (pc := 165) (f := g_10) E hw12 29 rfl (inbE (a := v_32.toInt) rfl (by omega)) dX12_runs_165 ?_
              refine lv_topi (fun v_38 ev_38 => ?_)
              refine cm_i (pc := 166) hw12 (rn_M (As := [.int v_35, .int v_37, .int v_38]) (rest := [.int v_34, .ref (mr 54)]) E hw12 (s_twoOf l D cI cJ _ M mr mi (va_up mf 54 g_10) mg v_35 v_37 v_38 (show (v_35.toInt = 5 → ¬ v_38.toInt = 0) from (fun h5 => run_part hst ev_35 h5 hi_10_5 ev_38 (by omega) (by omega)))) (gdV q_1887 q_1889 q_104 q_162 q_1890) hdV_X12_twoOf ⟨rfl, rfl⟩ ⟨(Nat.le_of_ble_eq_true rfl), (Nat.le_of_ble_eq_true rfl)⟩ ⟨(Nat.le_of_ble_eq_true rfl), (Nat.le_of_ble_eq_true rfl)⟩ 12 rfl rfl rfl rfl hl33.1 rfl (Nat.le_of_ble_eq_true rfl) dX12_runs_166) (fun r_40 u_39 H1 locs hp hw41 => ?_)
              generalize H1 = H at hw41 ⊢
              have hw42 : WD D A s.heap (MW cI cJ M mr mi (va_up mf 54 g_10) mg) H locs := hw41
              refine x_iastG (pc := 169) (f := g_10) (wf := fun g => (MW cI cJ M mr mi (va_up mf 54 g) mg)) E hw42 29 rfl (inbE (a := v_34.toInt) rfl (by omega)) (fun _ => rfl) dX12_runs_169 (fun g_43 H locs eg_43 hw44 => ?_)
              obtain ⟨v_45, ev_45⟩ : ∃ z : Int32, x_9 + Int32.ofInt (1) = z := ⟨_, rfl⟩
              have hv_45 : v_45.toInt = x_9.toInt + (1) := by rw [← ev_45]; exact incE rfl (by decide) (by omega)
              refine lv_iinc (pc := 170) (v := v_45) (lv' := [(5, .int v_45), (4, .int v_32), (0, .ref M), (1, .int 1), (2, .int z_first), (3, .int z_behind)]) E.1 E.2.1 dX12_runs_170 hl33 (k := 1) rfl ev_45 (by decide) rfl (fun ls hl46 => ?_)
              refine lv_goto (pc := 173) (tgt := 12) E.1 E.2.1 dX12_runs_173 (by decide) ?_
              exact ih_11 v_32 v_45 g_43 _ _ _ ⟨(by show 400 + z_first.toInt ≤ v_45.toInt; omega), (by show v_45.toInt ≤ 400 + z_behind.toInt; omega), (by show 0 ≤ v_32.toInt; omega), (by show v_32.toInt ≤ v_45.toInt - z_first.toInt - 400; omega), (by have q1 := idxI (x := v_45) (by omega); have q2 := hi_10_4; rw [show v_45.toNatClampNeg = x_9.toNatClampNeg + 1 from by omega]; omega), (by intro _ h; have q1 := idxI (x := v_45) (by omega); rw [show v_45.toNatClampNeg - 1 = x_9.toNatClampNeg from by omega] at h; exact absurd h (nE ev_35 (by have k1 : (0 : Int32).toInt = 0 := (by decide +kernel); omega)))⟩ (by omega) hw44 (lv_sub hl46 [0, 1, 2, 3, 4, 5] rfl)
            · skip
              have hc_31 := eqE (a := v_30.toInt) (b := 9) rfl (by decide +kernel) c_31
              have hu := ST_not hst (cE ev_30 (by have k1 : (9 : Int32).toInt = 9 := (by decide +kernel); omega))
              have hu1 : 1 ≤ x_8.toInt := by have q := hi_10_4; omega
              refine lv_aload_n (pc := 105) E.1 E.2.1 dX12_runs_105 rfl (lv_at hl13 2 rfl) ?_
              refine x_get (pc := 106) (T := TX12) (N := 70) (ci := 12) (v := .ref (mr 54)) E hw12 inX12 0 54 q_1453 rfl rfl (by decide) rfl rfl dX12_runs_106 ?_
              refine lv_iload (pc := 109) E.1 E.2.1 dX12_runs_109 (lv_at hl13 1 rfl) ?_
              refine lv_iconst (pc := 111) (v := 1) E.1 E.2.1 dX12_runs_111 (by decide +kernel) ?_
              refine lv_isub (pc := 112) E.1 E.2.1 dX12_runs_112 ?_
              refine lv_topi (fun v_47 ev_47 => ?_)
              have hv_47 : v_47.toInt = x_8.toInt - 1 := by rw [ev_47]; exact subE rfl (by decide +kernel) (by omega)
              refine lv_iconst (pc := 113) (v := 1) E.1 E.2.1 dX12_runs_113 (by decide +kernel) ?_
              refine lv_aload_n (pc := 114) E.1 E.2.1 dX12_runs_114 rfl (lv_at hl13 2 rfl) ?_
              refine x_get (pc := 115) (T := TX12) (N := 70) (ci := 12) (v := .ref (mr 54)) E hw12 inX12 0 54 q_1453 rfl rfl (by decide) rfl rfl dX12_runs_115 ?_
              refine lv_iload (pc := 118) E.1 E.2.1 dX12_runs_118 (lv_at hl13 1 rfl) ?_
              refine lv_iconst (pc := 120) (v := 1) E.1 E.2.1 dX12_runs_120 (by decide +kernel) ?_
              refine lv_isub (pc := 121) E.1 E.2.1 dX12_runs_121 ?_
              refine lv_topi (fun v_48 ev_48 => ?_)
              have hv_48 : v_48.toInt = x_8.toInt - 1 := by rw [ev_48]; exact subE rfl (by decide +kernel) (by omega)
              refine x_iald (pc := 122) (f := g_10) E hw12 29 rfl (inbE (a := v_48.toInt) rfl (by omega)) dX12_runs_122 ?_
              refine lv_topi (fun v_49 ev_49 => ?_)
              refine lv_isub (pc := 123) E.1 E.2.1 dX12_runs_123 ?_
              refine lv_topi (fun v_50 ev_50 => ?_)
              refine x_iastG (pc := 124) (f := g_10) (wf := fun g => (MW cI cJ M mr mi (va_up mf 54 g) mg)) E hw12 29 rfl (inbE (a := v_47.toInt) rfl (by omega)) (fun _ => rfl) dX12_runs_124 (fun g_51 H locs eg_51 hw52 => ?_)
              refine lv_goto (pc := 125) (tgt := 170) E.1 E.2.1 dX12_runs_125 (by decide) ?_
              obtain ⟨v_53, ev_53⟩ : ∃ z : Int32, x_9 + Int32.ofInt (1) = z := ⟨_, rfl⟩
              have hv_53 : v_53.toInt = x_9.toInt + (1) := by rw [← ev_53]; exact incE rfl (by decide) (by omega)
              refine lv_iinc (pc := 170) (v := v_53) (lv' := [(5, .int v_53), (4, .int x_8), (0, .ref M), (1, .int 1), (2, .int z_first), (3, .int z_behind)]) E.1 E.2.1 dX12_runs_170 hl13 (k := 0) rfl ev_53 (by decide) rfl (fun ls hl54 => ?_)
              refine lv_goto (pc := 173) (tgt := 12) E.1 E.2.1 dX12_runs_173 (by decide) ?_
              exact ih_11 x_8 v_53 g_51 _ _ _ ⟨(by show 400 + z_first.toInt ≤ v_53.toInt; omega), (by show v_53.toInt ≤ 400 + z_behind.toInt; omega), hi_10_2, (by show x_8.toInt ≤ v_53.toInt - z_first.toInt - 400; omega), (by have q1 := idxI (x := v_53) (by omega); have q2 := hi_10_4; rw [show v_53.toNatClampNeg = x_9.toNatClampNeg + 1 from by omega]; omega), (by intro _ h; have q1 := idxI (x := v_53) (by omega); rw [show v_53.toNatClampNeg - 1 = x_9.toNatClampNeg from by omega] at h; exact absurd h (nE ev_30 (by have k1 : (0 : Int32).toInt = 0 := (by decide +kernel); omega)))⟩ (by omega) hw52 (lv_sub hl54 [0, 1, 2, 3, 4, 5] rfl)
          · skip
            have hc_29 := eqE (a := v_28.toInt) (b := 1) rfl (by decide +kernel) c_29
            have hu := ST_push hst (Or.inr (cE ev_28 (by have k1 : (1 : Int32).toInt = 1 := (by decide +kernel); omega)))
            refine lv_aload_n (pc := 45) E.1 E.2.1 dX12_runs_45 rfl (lv_at hl13 2 rfl) ?_
            refine x_get (pc := 46) (T := TX12) (N := 70) (ci := 12) (v := .ref (mr 54)) E hw12 inX12 0 54 q_1453 rfl rfl (by decide) rfl rfl dX12_runs_46 ?_
            refine lv_iload (pc := 49) E.1 E.2.1 dX12_runs_49 (lv_at hl13 1 rfl) ?_
            refine lv_aload_n (pc := 51) E.1 E.2.1 dX12_runs_51 rfl (lv_at hl13 2 rfl) ?_
            refine x_get (pc := 52) (T := TX12) (N := 70) (ci := 12) (v := .ref (mr 31)) E hw12 inX12 0 31 q_1430 rfl rfl (by decide) rfl rfl dX12_runs_52 ?_
            refine lv_iload (pc := 55) E.1 E.2.1 dX12_runs_55 (lv_at hl13 0 rfl) ?_
            refine x_iald (pc := 57) (f := (mf 31)) E hw12 18 rfl (inbE (a := x_9.toInt) rfl (by omega)) dX12_runs_57 ?_
            refine lv_topi (fun v_55 ev_55 => ?_)
            have hsv_55 : v_55.toInt = v_28.toInt := by rw [ev_55, ev_28]
            refine lv_if_ne (pc := 58) (tgt := 71) E.1 E.2.1 dX12_runs_58 (by decide) (fun _ => ?_) (fun c_56 => absurd c_56 (mneE (a := v_55.toInt) (b := 0) rfl (by decide +kernel) (by omega)))
            refine lv_aload_n (pc := 71) E.1 E.2.1 dX12_runs_71 rfl (lv_at hl13 2 rfl) ?_
            refine x_get (pc := 72) (T := TX12) (N := 70) (ci := 12) (v := .ref (mr 53)) E hw12 inX12 0 53 q_1452 rfl rfl (by decide) rfl rfl dX12_runs_72 ?_
            refine lv_aload_n (pc := 75) E.1 E.2.1 dX12_runs_75 rfl (lv_at hl13 2 rfl) ?_
            refine x_get (pc := 76) (T := TX12) (N := 70) (ci := 12) (v := .ref (mr 32)) E hw12 inX12 0 32 q_1431 rfl rfl (by decide) rfl rfl dX12_runs_76 ?_
            refine lv_iload (pc := 79) E.1 E.2.1 dX12_runs_79 (lv_at hl13 0 rfl) ?_
            refine x_iald (pc := 81) (f := (mf 32)) E hw12 19 rfl (inbE (a := x_9.toInt) rfl (by omega)) dX12_runs_81 ?_
            refine lv_topi (fun v_57 ev_57 => ?_)
            have hak := ST_ask hst (cE ev_55 (by have k1 : (1 : Int32).toInt = 1 := (by decide +kernel); omega))
            have hak2 : 0 ≤ v_57.toInt ∧ v_57.toInt ≤ 9 := by rw [ev_57]; exact hak
            refine x_iald (pc := 82) (f := (mf 53)) E hw12 28 rfl (inbE (a := v_57.toInt) rfl (by omega)) dX12_runs_82 ?_
            refine lv_topi (fun v_58 ev_58 => ?_)
            refine x_iastG (pc := 83) (f := g_10) (wf := fun g => (MW cI cJ M mr mi (va_up mf 54 g) mg)) E hw12 29 rfl (inbE (a := x_8.toInt) rfl (by omega)) (fun _ => rfl) dX12_runs_83 (fun g_59 H locs eg_59 hw60 => ?_)
            refine lv_iload (pc := 84) E.1 E.2.1 dX12_runs_84 (lv_at hl13 1 rfl) ?_
            refine lv_iconst (pc := 86) (v := 1) E.1 E.2.1 dX12_runs_86 (by decide +kernel) ?_
            refine lv_iadd (pc := 87) E.1 E.2.1 dX12_runs_87 ?_
            refine lv_topi (fun v_61 ev_61 => ?_)
            have hv_61 : v_61.toInt = x_8.toInt + 1 := by rw [ev_61]; exact addE rfl (by decide +kernel) (by omega)
            refine lv_istore (pc := 88) (lv' := [(4, .int v_61), (5, .int x_9), (0, .ref M), (1, .int 1), (2, .int z_first), (3, .int z_behind)]) E.1 E.2.1 dX12_runs_88 hl13 (by decide) rfl (fun ls hl62 => ?_)
            refine lv_goto (pc := 90) (tgt := 170) E.1 E.2.1 dX12_runs_90 (by decide) ?_
            obtain ⟨v_63, ev_63⟩ : ∃ z : Int32, x_9 + Int32.ofInt (1) = z := ⟨_, rfl⟩
            have hv_63 : v_63.toInt = x_9.toInt + (1) := by rw [← ev_63]; exact incE rfl (by decide) (by omega)
            refine lv_iinc (pc := 170) (v := v_63) (lv' := [(5, .int v_63), (4, .int v_61), (0, .ref M), (1, .int 1), (2, .int z_first), (3, .int z_behind)]) E.1 E.2.1 dX12_runs_170 hl62 (k := 1) rfl ev_63 (by decide) rfl (fun ls hl64 => ?_)
            refine lv_goto (pc := 173) (tgt := 12) E.1 E.2.1 dX12_runs_173 (by decide) ?_
            exact ih_11 v_61 v_63 g_59 _ _ _ ⟨(by show 400 + z_first.toInt ≤ v_63.toInt; omega), (by show v_63.toInt ≤ 400 + z_behind.toInt; omega), (by show 0 ≤ v_61.toInt; omega), (by show v_61.toInt ≤ v_63.toInt - z_first.toInt - 400; omega), (by have q1 := idxI (x := v_63) (by omega); have q2 := hi_10_4; rw [show v_63.toNatClampNeg = x_9.toNatClampNeg + 1 from by omega]; omega), (by intro _ h; have q1 := idxI (x := v_63) (by omega); rw [show v_63.toNatClampNeg - 1 = x_9.toNatClampNeg from by omega] at h; exact absurd h (nE ev_55 (by have k1 : (0 : Int32).toInt = 0 := (by decide +kernel); omega)))⟩ (by omega) hw60 (lv_sub hl64 [0, 1, 2, 3, 4, 5] rfl)
  exact loop_7 (Int.toNat (400 + z_behind.toInt - v_5.toInt) + 1) 0 v_5 (mf 54) _ _ _ ⟨(by show 400 + z_first.toInt ≤ v_5.toInt; omega), (by show v_5.toInt ≤ 400 + z_behind.toInt; omega), (by show 0 ≤ (0 : Int32).toInt; have k_0 : (0 : Int32).toInt = 0 := (by decide +kernel); omega), (by show (0 : Int32).toInt ≤ v_5.toInt - z_first.toInt - 400; have k_0 : (0 : Int32).toInt = 0 := (by decide +kernel); omega), (by have q1 := idxI (x := v_5) (by omega); rw [show v_5.toNatClampNeg = 400 + z_first.toInt.toNat from by omega, hd0]; decide +kernel), (fun h => absurd h (by have q1 := idxI (x := v_5) (by omega); omega))⟩ (by have k_0 : (0 : Int32).toInt = 0 := (by decide +kernel); omega) hw1 (lv_sub hl6 [0, 1, 2, 3, 4, 5] rfl)

set_option maxHeartbeats 4000000 in
set_option maxRecDepth 100000 in
theorem s_lineOf0 (l : Launch) (D : va_G) (cI cJ : ClassId) (sz M : Nat) (mr : Nat → Nat) (mi : Nat → Int32) (mf : Nat → Nat → Int32) (mg : Nat → Nat → Int64)  (h0 : 0 ≤ ((mf 27) 0).toInt) (h1 : ((mf 27) 0).toInt ≤ 16) (h2 : 0 ≤ ((mf 27) 1).toInt) (h3 : ((mf 27) 1).toInt ≤ 16) (lf_law0 : LW 0 0 (mf 31) (mf 32) (mf 28) (mf 29) (mf 30) ((mf 27) 0).toInt 400) : Met l yX12_lineOf (Cond.code yX12_lineOf cX12_lineOf 4 (some .int) :: GW) ({ frames := 3, cells := 0, slots := 0, locals := 88 } : Room) (va_Pc [.ref M, .int 0] (PW D cI cJ sz (MW cI cJ M mr mi mf mg) xT)) (va_Qi (fun (r : Int32) (u : (Nat → Int32)) => ((r = (-1)) ∨ (0 ≤ r.toInt ∧ r.toInt ≤ (-1) + ((mf 27) 0).toInt))) (fun u => QW D cI cJ (va_A (MW cI cJ M mr mi mf mg) sz) ((fun (u : (Nat → Int32)) => (MW cI cJ M mr mi (va_up mf 54 u) mg)) u)) (va_A (MW cI cJ M mr mi mf mg) sz)) 0 0 (va_A (MW cI cJ M mr mi mf mg) sz) := by
  refine mk_met (y := yX12_lineOf) (bytes := cX12_lineOf) (maxL := 4) (avs := [.ref M, .int 0]) (WS := (MW cI cJ M mr mi mf mg)) (Qf := fun A => va_Qi (fun (r : Int32) (u : (Nat → Int32)) => ((r = (-1)) ∨ (0 ≤ r.toInt ∧ r.toInt ≤ (-1) + ((mf 27) 0).toInt))) (fun u => QW D cI cJ A ((fun (u : (Nat → Int32)) => (MW cI cJ M mr mi (va_up mf 54 u) mg)) u)) A) (by decide) (Nat.le_of_ble_eq_true rfl) ?_
  intro p e s m below meth c A ls E hr hlk hnm hX hw1 hl2
  have hl3 : lv_has ls 4 [(0, .ref M), (1, .int 0)] := hl2
  refine lv_iconst (pc := 0) (v := 0) E.1 E.2.1 dX12_lineOf_0 (by decide +kernel) ?_
  refine lv_istore_n (pc := 1) (lv' := [(2, .int 0), (0, .ref M), (1, .int 0)]) E.1 E.2.1 dX12_lineOf_1 rfl hl3 (by decide) rfl (fun ls hl4 => ?_)
  have loop_5 : ∀ (k : Nat) (x_6 : Int32) (g_7 : Nat → Int32) (H : Heap) (locs : List Loc) (ls : Array Slot), (0 ≤ x_6.toInt) ∧ (x_6.toInt ≤ ((mf 27) 0).toInt) → ((mf 27) 0).toInt - x_6.toInt < (k : Int) → WD D A s.heap (MW cI cJ M mr mi (va_up mf 54 g_7) mg) H locs → lv_has ls 4 [(2, .int x_6), (0, .ref M), (1, .int 0)] → W p l e ({ frames := 3, cells := 0, slots := 0, locals := 88 } : Room) s m ([.ref M, .int 0] : List Value).toArray below meth c H locs 0 0 (MQ below (va_Qi (fun (r : Int32) (u : (Nat → Int32)) => ((r = (-1)) ∨ (0 ≤ r.toInt ∧ r.toInt ≤ (-1) + ((mf 27) 0).toInt))) (fun u => QW D cI cJ A ((fun (u : (Nat → Int32)) => (MW cI cJ M mr mi (va_up mf 54 u) mg)) u)) A) ([.ref M, .int 0] : List Value).toArray s 0 0 A) (F0 m 2 ls []) := by
    intro k
    induction k with
    | zero =>
      intro x_6 g_7 _ _ _ hinv hm
      obtain ⟨hi_7_0, hi_7_1⟩ := hinv
      exact absurd hm (by omega)
    | succ k ih_8 =>
      intro x_6 g_7 H locs ls hinv hm hw9 hl10
      obtain ⟨hi_7_0, hi_7_1⟩ := hinv
      refine lv_iload_n (pc := 2) E.1 E.2.1 dX12_lineOf_2 rfl (lv_at hl10 0 rfl) ?_
      refine lv_aload_n (pc := 3) E.1 E.2.1 dX12_lineOf_3 rfl (lv_at hl10 1 rfl) ?_
      refine x_get (pc := 4) (T := TX12) (N := 70) (ci := 12) (v := .ref (mr 27)) E hw9 inX12 0 27 q_1426 rfl rfl (by decide) rfl rfl dX12_lineOf_4 ?_
      refine lv_iload_n (pc := 7) E.1 E.2.1 dX12_lineOf_7 rfl (lv_at hl10 2 rfl) ?_
      refine x_iald (pc := 8) (f := (mf 27)) E hw9 14 rfl (inbE (a := 0) (by decide +kernel) (by omega)) dX12_lineOf_8 ?_
      refine lv_topi (fun v_11 ev_11 => ?_)
      have hv_11 : v_11.toInt = ((mf 27) 0).toInt := by rw [ev_11]; rfl
      refine lv_icmp_ge (pc := 9) (tgt := 62) E.1 E.2.1 dX12_lineOf_9 (by decide) (fun c_12 => ?_) (fun c_12 => ?_)
      · skip
        have hc_12 := leE (a := v_11.toInt) (b := x_6.toInt) rfl rfl c_12
        refine lv_iconst (pc := 62) (v := (-1)) E.1 E.2.1 dX12_lineOf_62 (by decide +kernel) ?_
        exact em_i (w1 := (fun (u : (Nat → Int32)) => (MW cI cJ M mr mi (va_up mf 54 u) mg))) E hr hlk g_7 hw9 (Or.inl rfl) (Nat.le_of_ble_eq_true rfl) (Nat.le_of_ble_eq_true rfl) dX12_lineOf_63
      · skip
        have hc_12 := nleE (a := v_11.toInt) (b := x_6.toInt) rfl rfl c_12
        refine lv_bipush (pc := 12) (v := 16) E.1 E.2.1 dX12_lineOf_12 (by decide +kernel) ?_
        refine lv_iload_n (pc := 14) E.1 E.2.1 dX12_lineOf_14 rfl (lv_at hl10 2 rfl) ?_
        refine lv_imul (pc := 15) E.1 E.2.1 dX12_lineOf_15 ?_
        refine tI (y := 0) (by decide +kernel) ?_
        refine lv_iload_n (pc := 16) E.1 E.2.1 dX12_lineOf_16 rfl (lv_at hl10 0 rfl) ?_
        refine lv_iadd (pc := 17) E.1 E.2.1 dX12_lineOf_17 ?_
        refine lv_topi (fun v_13 ev_13 => ?_)
        have hv_13 : v_13.toInt = 0 + x_6.toInt := by rw [ev_13]; exact addE (by decide +kernel) rfl (by omega)
        refine lv_istore_n (pc := 18) (lv' := [(3, .int v_13), (2, .int x_6), (0, .ref M), (1, .int 0)]) E.1 E.2.1 dX12_lineOf_18 rfl hl10 (by decide) rfl (fun ls hl14 => ?_)
        refine lv_aload_n (pc := 19) E.1 E.2.1 dX12_lineOf_19 rfl (lv_at hl14 2 rfl) ?_
        refine x_get (pc := 20) (T := TX12) (N := 70) (ci := 12) (v := .ref (mr 29)) E hw9 inX12 0 29 q_1428 rfl rfl (by decide) rfl rfl dX12_lineOf_20 ?_
        refine lv_iload_n (pc := 23) E.1 E.2.1 dX12_lineOf_23 rfl (lv_at hl14 0 rfl) ?_
        refine x_iald (pc := 24) (f := (mf 29)) E hw9 16 rfl (inbE (a := v_13.toInt) rfl (by omega)) dX12_lineOf_24 ?_
        refine lv_topi (fun v_15 ev_15 => ?_)
        refine lv_aload_n (pc := 25) E.1 E.2.1 dX12_lineOf_25 rfl (lv_at hl14 2 rfl) ?_
        refine x_get (pc := 26) (T := TX12) (N := 70) (ci := 12) (v := .ref (mr 30)) E hw9 inX12 0 30 q_1429 rfl rfl (by decide) rfl rfl dX12_lineOf_26 ?_
        refine lv_iload_n (pc := 29) E.1 E.2.1 dX12_lineOf_29 rfl (lv_at hl14 0 rfl) ?_
        refine x_iald (pc := 30) (f := (mf 30)) E hw9 17 rfl (inbE (a := v_13.toInt) rfl (by omega)) dX12_lineOf_30 ?_
        refine lv_topi (fun v_16 ev_16 => ?_)
        refine lv_icmp_eq (pc := 31) (tgt := 54) E.1 E.2.1 dX12_lineOf_31 (by decide) (fun c_17 => ?_) (fun c_17 => ?_)
        · skip
          have hc_17 := eqE (a := v_15.toInt) (b := v_16.toInt) rfl rfl c_17
          refine lv_iload_n (pc := 54) E.1 E.2.1 dX12_lineOf_54 rfl (lv_at hl14 0 rfl) ?_
          exact em_i (w1 := (fun (u : (Nat → Int32)) => (MW cI cJ M mr mi (va_up mf 54 u) mg))) E hr hlk g_7 hw9 (Or.inr (⟨(by show 0 ≤ v_13.toInt; omega), (by show v_13.toInt ≤ (-1) + ((mf 27) 0).toInt; omega)⟩)) (Nat.le_of_ble_eq_true rfl) (Nat.le_of_ble_eq_true rfl) dX12_lineOf_55
        · skip
          have hc_17 := neE (a := v_15.toInt) (b := v_16.toInt) rfl rfl c_17
          refine lv_aload_n (pc := 34) E.1 E.2.1 dX12_lineOf_34 rfl (lv_at hl14 2 rfl) ?_
          refine lv_iload_n (pc := 35) E.1 E.2.1 dX12_lineOf_35 rfl (lv_at hl14 3 rfl) ?_
          refine lv_aload_n (pc := 36) E.1 E.2.1 dX12_lineOf_36 rfl (lv_at hl14 2 rfl) ?_
          refine x_get (pc := 37) (T := TX12) (N := 70) (ci := 12) (v := .ref (mr 29)) E hw9 inX12 0 29 q_1428 rfl rfl (by decide) rfl rfl dX12_lineOf_37 ?_
          refine lv_iload_n (pc := 40) E.1 E.2.1 dX12_lineOf_40 rfl (lv_at hl14 0 rfl) ?_
          refine x_iald (pc := 41) (f := (mf 29)) E hw9 16 rfl (inbE (a := v_13.toInt) rfl (by omega)) dX12_lineOf_41 ?_
          refine lv_topi (fun v_18 ev_18 => ?_)
          have hsv_18 : v_18.toInt = v_15.toInt := by rw [ev_18, ev_15]
          refine lv_aload_n (pc := 42) E.1 E.2.1 dX12_lineOf_42 rfl (lv_at hl14 2 rfl) ?_
          refine x_get (pc := 43) (T := TX12) (N := 70) (ci := 12) (v := .ref (mr 30)) E hw9 inX12 0 30 q_1429 rfl rfl (by decide) rfl rfl dX12_lineOf_43 ?_
          refine lv_iload_n (pc := 46) E.1 E.2.1 dX12_lineOf_46 rfl (lv_at hl14 0 rfl) ?_
          refine x_iald (pc := 47) (f := (mf 30)) E hw9 17 rfl (inbE (a := v_13.toInt) rfl (by omega)) dX12_lineOf_47 ?_
          refine lv_topi (fun v_19 ev_19 => ?_)
          have hsv_19 : v_19.toInt = v_16.toInt := by rw [ev_19, ev_16]
          have hlw_20 := LW_at lf_law0 (l := v_13) (by omega)
          have hlw_20a : 0 ≤ v_18.toInt ∧ v_18.toInt ≤ v_19.toInt ∧ v_19.toInt ≤ 400 := by rw [ev_18, ev_19]; omega
          refine cm_i (pc := 48) hw9 (rn_M (As := [.int 0, .int v_18, .int v_19]) (rest := []) E hw9 (s_runs0 l D cI cJ _ M mr mi (va_up mf 54 g_7) mg v_18 v_19 (by show 0 ≤ v_18.toInt; omega) (by show v_18.toInt ≤ v_19.toInt; omega) (by show v_19.toInt ≤ 400; omega) (show DP (mf 31) (mf 32) (0 + v_18.toInt.toNat) (0 + v_19.toInt.toNat) 1 from (by rw [ev_18, ev_19]; exact hlw_20.2.2.resolve_left (by have q : v_18.toInt = _ := congrArg Int32.toInt ev_18; have q2 : v_19.toInt = _ := congrArg Int32.toInt ev_19; omega)))) (gdV q_1883 q_1885 q_103 q_162 q_1886) hdV_X12_runs ⟨rfl, rfl⟩ ⟨(Nat.le_of_ble_eq_true rfl), (Nat.le_of_ble_eq_true rfl)⟩ ⟨(Nat.le_of_ble_eq_true rfl), (Nat.le_of_ble_eq_true rfl)⟩ 12 rfl rfl rfl rfl hl14.1 rfl (Nat.le_of_ble_eq_true rfl) dX12_lineOf_48) (fun r_22 u_21 H1 locs hp hw23 => ?_)
          obtain ⟨gstack_24, rfl⟩ : ∃ z, z = u_21 := ⟨_, rfl⟩
          generalize H1 = H at hw23 ⊢
          have hw25 : WD D A s.heap (MW cI cJ M mr mi (va_up mf 54 gstack_24) mg) H locs := hw23
          refine lv_if_eq (pc := 51) (tgt := 56) E.1 E.2.1 dX12_lineOf_51 (by decide) (fun c_26 => ?_) (fun c_26 => ?_)
          · skip
            have hc_26 := eqE (a := r_22.toInt) (b := 0) rfl (by decide +kernel) c_26
            obtain ⟨v_27, ev_27⟩ : ∃ z : Int32, x_6 + Int32.ofInt (1) = z := ⟨_, rfl⟩
            have hv_27 : v_27.toInt = x_6.toInt + (1) := by rw [← ev_27]; exact incE rfl (by decide) (by omega)
            refine lv_iinc (pc := 56) (v := v_27) (lv' := [(2, .int v_27), (3, .int v_13), (0, .ref M), (1, .int 0)]) E.1 E.2.1 dX12_lineOf_56 hl14 (k := 1) rfl ev_27 (by decide) rfl (fun ls hl28 => ?_)
            refine lv_goto (pc := 59) (tgt := 2) E.1 E.2.1 dX12_lineOf_59 (by decide) ?_
            exact ih_8 v_27 gstack_24 _ _ _ ⟨(by show 0 ≤ v_27.toInt; omega), (by show v_27.toInt ≤ ((mf 27) 0).toInt; omega)⟩ (by omega) hw25 (lv_sub hl28 [0, 2, 3] rfl)
          · skip
            have hc_26 := neE (a := r_22.toInt) (b := 0) rfl (by decide +kernel) c_26
            refine lv_iload_n (pc := 54) E.1 E.2.1 dX12_lineOf_54 rfl (lv_at hl14 0 rfl) ?_
            exact em_i (w1 := (fun (u : (Nat → Int32)) => (MW cI cJ M mr mi (va_up mf 54 u) mg))) E hr hlk gstack_24 hw25 (Or.inr (⟨(by show 0 ≤ v_13.toInt; omega), (by show v_13.toInt ≤ (-1) + ((mf 27) 0).toInt; omega)⟩)) (Nat.le_of_ble_eq_true rfl) (Nat.le_of_ble_eq_true rfl) dX12_lineOf_55
  exact loop_5 (Int.toNat (((mf 27) 0).toInt - 0) + 1) 0 (mf 54) _ _ _ ⟨(by show 0 ≤ (0 : Int32).toInt; have k_0 : (0 : Int32).toInt = 0 := (by decide +kernel); omega), (by show (0 : Int32).toInt ≤ ((mf 27) 0).toInt; have k_0 : (0 : Int32).toInt = 0 := (by decide +kernel); omega)⟩ (by have k_0 : (0 : Int32).toInt = 0 := (by decide +kernel); omega) hw1 (lv_sub hl4 [0, 1, 2] rfl)

set_option maxHeartbeats 4000000 in
set_option maxRecDepth 100000 in
theorem s_lineOf1 (l : Launch) (D : va_G) (cI cJ : ClassId) (sz M : Nat) (mr : Nat → Nat) (mi : Nat → Int32) (mf : Nat → Nat → Int32) (mg : Nat → Nat → Int64)  (h0 : 0 ≤ ((mf 27) 0).toInt) (h1 : ((mf 27) 0).toInt ≤ 16) (h2 : 0 ≤ ((mf 27) 1).toInt) (h3 : ((mf 27) 1).toInt ≤ 16) (lf_law1 : LW 16 400 (mf 31) (mf 32) (mf 28) (mf 29) (mf 30) ((mf 27) 1).toInt 400) : Met l yX12_lineOf (Cond.code yX12_lineOf cX12_lineOf 4 (some .int) :: GW) ({ frames := 3, cells := 0, slots := 0, locals := 88 } : Room) (va_Pc [.ref M, .int 1] (PW D cI cJ sz (MW cI cJ M mr mi mf mg) xT)) (va_Qi (fun (r : Int32) (u : (Nat → Int32)) => ((r = (-1)) ∨ (16 ≤ r.toInt ∧ r.toInt ≤ 15 + ((mf 27) 1).toInt))) (fun u => QW D cI cJ (va_A (MW cI cJ M mr mi mf mg) sz) ((fun (u : (Nat → Int32)) => (MW cI cJ M mr mi (va_up mf 54 u) mg)) u)) (va_A (MW cI cJ M mr mi mf mg) sz)) 0 0 (va_A (MW cI cJ M mr mi mf mg) sz) := by
  refine mk_met (y := yX12_lineOf) (bytes := cX12_lineOf) (maxL := 4) (avs := [.ref M, .int 1]) (WS := (MW cI cJ M mr mi mf mg)) (Qf := fun A => va_Qi (fun (r : Int32) (u : (Nat → Int32)) => ((r = (-1)) ∨ (16 ≤ r.toInt ∧ r.toInt ≤ 15 + ((mf 27) 1).toInt))) (fun u => QW D cI cJ A ((fun (u : (Nat → Int32)) => (MW cI cJ M mr mi (va_up mf 54 u) mg)) u)) A) (by decide) (Nat.le_of_ble_eq_true rfl) ?_
  intro p e s m below meth c A ls E hr hlk hnm hX hw1 hl2
  have hl3 : lv_has ls 4 [(0, .ref M), (1, .int 1)] := hl2
  refine lv_iconst (pc := 0) (v := 0) E.1 E.2.1 dX12_lineOf_0 (by decide +kernel) ?_
  refine lv_istore_n (pc := 1) (lv' := [(2, .int 0), (0, .ref M), (1, .int 1)]) E.1 E.2.1 dX12_lineOf_1 rfl hl3 (by decide) rfl (fun ls hl4 => ?_)
  have loop_5 : ∀ (k : Nat) (x_6 : Int32) (g_7 : Nat → Int32) (H : Heap) (locs : List Loc) (ls : Array Slot), (0 ≤ x_6.toInt) ∧ (x_6.toInt ≤ ((mf 27) 1).toInt) → ((mf 27) 1).toInt - x_6.toInt < (k : Int) → WD D A s.heap (MW cI cJ M mr mi (va_up mf 54 g_7) mg) H locs → lv_has ls 4 [(2, .int x_6), (0, .ref M), (1, .int 1)] → W p l e ({ frames := 3, cells := 0, slots := 0, locals := 88 } : Room) s m ([.ref M, .int 1] : List Value).toArray below meth c H locs 0 0 (MQ below (va_Qi (fun (r : Int32) (u : (Nat → Int32)) => ((r = (-1)) ∨ (16 ≤ r.toInt ∧ r.toInt ≤ 15 + ((mf 27) 1).toInt))) (fun u => QW D cI cJ A ((fun (u : (Nat → Int32)) => (MW cI cJ M mr mi (va_up mf 54 u) mg)) u)) A) ([.ref M, .int 1] : List Value).toArray s 0 0 A) (F0 m 2 ls []) := by
    intro k
    induction k with
    | zero =>
      intro x_6 g_7 _ _ _ hinv hm
      obtain ⟨hi_7_0, hi_7_1⟩ := hinv
      exact absurd hm (by omega)
    | succ k ih_8 =>
      intro x_6 g_7 H locs ls hinv hm hw9 hl10
      obtain ⟨hi_7_0, hi_7_1⟩ := hinv
      refine lv_iload_n (pc := 2) E.1 E.2.1 dX12_lineOf_2 rfl (lv_at hl10 0 rfl) ?_
      refine lv_aload_n (pc := 3) E.1 E.2.1 dX12_lineOf_3 rfl (lv_at hl10 1 rfl) ?_
      refine x_get (pc := 4) (T := TX12) (N := 70) (ci := 12) (v := .ref (mr 27)) E hw9 inX12 0 27 q_1426 rfl rfl (by decide) rfl rfl dX12_lineOf_4 ?_
      refine lv_iload_n (pc := 7) E.1 E.2.1 dX12_lineOf_7 rfl (lv_at hl10 2 rfl) ?_
      refine x_iald (pc := 8) (f := (mf 27)) E hw9 14 rfl (inbE (a := 1) (by decide +kernel) (by omega)) dX12_lineOf_8 ?_
      refine lv_topi (fun v_11 ev_11 => ?_)
      have hv_11 : v_11.toInt = ((mf 27) 1).toInt := by rw [ev_11]; rfl
      refine lv_icmp_ge (pc := 9) (tgt := 62) E.1 E.2.1 dX12_lineOf_9 (by decide) (fun c_12 => ?_) (fun c_12 => ?_)
      · skip
        have hc_12 := leE (a := v_11.toInt) (b := x_6.toInt) rfl rfl c_12
        refine lv_iconst (pc := 62) (v := (-1)) E.1 E.2.1 dX12_lineOf_62 (by decide +kernel) ?_
        exact em_i (w1 := (fun (u : (Nat → Int32)) => (MW cI cJ M mr mi (va_up mf 54 u) mg))) E hr hlk g_7 hw9 (Or.inl rfl) (Nat.le_of_ble_eq_true rfl) (Nat.le_of_ble_eq_true rfl) dX12_lineOf_63
      · skip
        have hc_12 := nleE (a := v_11.toInt) (b := x_6.toInt) rfl rfl c_12
        refine lv_bipush (pc := 12) (v := 16) E.1 E.2.1 dX12_lineOf_12 (by decide +kernel) ?_
        refine lv_iload_n (pc := 14) E.1 E.2.1 dX12_lineOf_14 rfl (lv_at hl10 2 rfl) ?_
        refine lv_imul (pc := 15) E.1 E.2.1 dX12_lineOf_15 ?_
        refine tI (y := 16) (by decide +kernel) ?_
        refine lv_iload_n (pc := 16) E.1 E.2.1 dX12_lineOf_16 rfl (lv_at hl10 0 rfl) ?_
        refine lv_iadd (pc := 17) E.1 E.2.1 dX12_lineOf_17 ?_
        refine lv_topi (fun v_13 ev_13 => ?_)
        have hv_13 : v_13.toInt = 16 + x_6.toInt := by rw [ev_13]; exact addE (by decide +kernel) rfl (by omega)
        refine lv_istore_n (pc := 18) (lv' := [(3, .int v_13), (2, .int x_6), (0, .ref M), (1, .int 1)]) E.1 E.2.1 dX12_lineOf_18 rfl hl10 (by decide) rfl (fun ls hl14 => ?_)
        refine lv_aload_n (pc := 19) E.1 E.2.1 dX12_lineOf_19 rfl (lv_at hl14 2 rfl) ?_
        refine x_get (pc := 20) (T := TX12) (N := 70) (ci := 12) (v := .ref (mr 29)) E hw9 inX12 0 29 q_1428 rfl rfl (by decide) rfl rfl dX12_lineOf_20 ?_
        refine lv_iload_n (pc := 23) E.1 E.2.1 dX12_lineOf_23 rfl (lv_at hl14 0 rfl) ?_
        refine x_iald (pc := 24) (f := (mf 29)) E hw9 16 rfl (inbE (a := v_13.toInt) rfl (by omega)) dX12_lineOf_24 ?_
        refine lv_topi (fun v_15 ev_15 => ?_)
        refine lv_aload_n (pc := 25) E.1 E.2.1 dX12_lineOf_25 rfl (lv_at hl14 2 rfl) ?_
        refine x_get (pc := 26) (T := TX12) (N := 70) (ci := 12) (v := .ref (mr 30)) E hw9 inX12 0 30 q_1429 rfl rfl (by decide) rfl rfl dX12_lineOf_26 ?_
        refine lv_iload_n (pc := 29) E.1 E.2.1 dX12_lineOf_29 rfl (lv_at hl14 0 rfl) ?_
        refine x_iald (pc := 30) (f := (mf 30)) E hw9 17 rfl (inbE (a := v_13.toInt) rfl (by omega)) dX12_lineOf_30 ?_
        refine lv_topi (fun v_16 ev_16 => ?_)
        refine lv_icmp_eq (pc := 31) (tgt := 54) E.1 E.2.1 dX12_lineOf_31 (by decide) (fun c_17 => ?_) (fun c_17 => ?_)
        · skip
          have hc_17 := eqE (a := v_15.toInt) (b := v_16.toInt) rfl rfl c_17
          refine lv_iload_n (pc := 54) E.1 E.2.1 dX12_lineOf_54 rfl (lv_at hl14 0 rfl) ?_
          exact em_i (w1 := (fun (u : (Nat → Int32)) => (MW cI cJ M mr mi (va_up mf 54 u) mg))) E hr hlk g_7 hw9 (Or.inr (⟨(by show 16 ≤ v_13.toInt; omega), (by show v_13.toInt ≤ 15 + ((mf 27) 1).toInt; omega)⟩)) (Nat.le_of_ble_eq_true rfl) (Nat.le_of_ble_eq_true rfl) dX12_lineOf_55
        · skip
          have hc_17 := neE (a := v_15.toInt) (b := v_16.toInt) rfl rfl c_17
          refine lv_aload_n (pc := 34) E.1 E.2.1 dX12_lineOf_34 rfl (lv_at hl14 2 rfl) ?_
          refine lv_iload_n (pc := 35) E.1 E.2.1 dX12_lineOf_35 rfl (lv_at hl14 3 rfl) ?_
          refine lv_aload_n (pc := 36) E.1 E.2.1 dX12_lineOf_36 rfl (lv_at hl14 2 rfl) ?_
          refine x_get (pc := 37) (T := TX12) (N := 70) (ci := 12) (v := .ref (mr 29)) E hw9 inX12 0 29 q_1428 rfl rfl (by decide) rfl rfl dX12_lineOf_37 ?_
          refine lv_iload_n (pc := 40) E.1 E.2.1 dX12_lineOf_40 rfl (lv_at hl14 0 rfl) ?_
          refine x_iald (pc := 41) (f := (mf 29)) E hw9 16 rfl (inbE (a := v_13.toInt) rfl (by omega)) dX12_lineOf_41 ?_
          refine lv_topi (fun v_18 ev_18 => ?_)
          have hsv_18 : v_18.toInt = v_15.toInt := by rw [ev_18, ev_15]
          refine lv_aload_n (pc := 42) E.1 E.2.1 dX12_lineOf_42 rfl (lv_at hl14 2 rfl) ?_
          refine x_get (pc := 43) (T := TX12) (N := 70) (ci := 12) (v := .ref (mr 30)) E hw9 inX12 0 30 q_1429 rfl rfl (by decide) rfl rfl dX12_lineOf_43 ?_
          refine lv_iload_n (pc := 46) E.1 E.2.1 dX12_lineOf_46 rfl (lv_at hl14 0 rfl) ?_
          refine x_iald (pc := 47) (f := (mf 30)) E hw9 17 rfl (inbE (a := v_13.toInt) rfl (by omega)) dX12_lineOf_47 ?_
          refine lv_topi (fun v_19 ev_19 => ?_)
          have hsv_19 : v_19.toInt = v_16.toInt := by rw [ev_19, ev_16]
          have hlw_20 := LW_at lf_law1 (l := v_13) (by omega)
          have hlw_20a : 0 ≤ v_18.toInt ∧ v_18.toInt ≤ v_19.toInt ∧ v_19.toInt ≤ 400 := by rw [ev_18, ev_19]; omega
          refine cm_i (pc := 48) hw9 (rn_M (As := [.int 1, .int v_18, .int v_19]) (rest := []) E hw9 (s_runs1 l D cI cJ _ M mr mi (va_up mf 54 g_7) mg v_18 v_19 (by show 0 ≤ v_18.toInt; omega) (by show v_18.toInt ≤ v_19.toInt; omega) (by show v_19.toInt ≤ 400; omega) (show DP (mf 31) (mf 32) (400 + v_18.toInt.toNat) (400 + v_19.toInt.toNat) 1 from (by rw [ev_18, ev_19]; exact hlw_20.2.2.resolve_left (by have q : v_18.toInt = _ := congrArg Int32.toInt ev_18; have q2 : v_19.toInt = _ := congrArg Int32.toInt ev_19; omega)))) (gdV q_1883 q_1885 q_103 q_162 q_1886) hdV_X12_runs ⟨rfl, rfl⟩ ⟨(Nat.le_of_ble_eq_true rfl), (Nat.le_of_ble_eq_true rfl)⟩ ⟨(Nat.le_of_ble_eq_true rfl), (Nat.le_of_ble_eq_true rfl)⟩ 12 rfl rfl rfl rfl hl14.1 rfl (Nat.le_of_ble_eq_true rfl) dX12_lineOf_48) (fun r_22 u_21 H1 locs hp hw23 => ?_)
          obtain ⟨gstack_24, rfl⟩ : ∃ z, z = u_21 := ⟨_, rfl⟩
          generalize H1 = H at hw23 ⊢
          have hw25 : WD D A s.heap (MW cI cJ M mr mi (va_up mf 54 gstack_24) mg) H locs := hw23
          refine lv_if_eq (pc := 51) (tgt := 56) E.1 E.2.1 dX12_lineOf_51 (by decide) (fun c_26 => ?_) (fun c_26 => ?_)
          · skip
            have hc_26 := eqE (a := r_22.toInt) (b := 0) rfl (by decide +kernel) c_26
            obtain ⟨v_27, ev_27⟩ : ∃ z : Int32, x_6 + Int32.ofInt (1) = z := ⟨_, rfl⟩
            have hv_27 : v_27.toInt = x_6.toInt + (1) := by rw [← ev_27]; exact incE rfl (by decide) (by omega)
            refine lv_iinc (pc := 56) (v := v_27) (lv' := [(2, .int v_27), (3, .int v_13), (0, .ref M), (1, .int 1)]) E.1 E.2.1 dX12_lineOf_56 hl14 (k := 1) rfl ev_27 (by decide) rfl (fun ls hl28 => ?_)
            refine lv_goto (pc := 59) (tgt := 2) E.1 E.2.1 dX12_lineOf_59 (by decide) ?_
            exact ih_8 v_27 gstack_24 _ _ _ ⟨(by show 0 ≤ v_27.toInt; omega), (by show v_27.toInt ≤ ((mf 27) 1).toInt; omega)⟩ (by omega) hw25 (lv_sub hl28 [0, 2, 3] rfl)
          · skip
            have hc_26 := neE (a := r_22.toInt) (b := 0) rfl (by decide +kernel) c_26
            refine lv_iload_n (pc := 54) E.1 E.2.1 dX12_lineOf_54 rfl (lv_at hl14 0 rfl) ?_
            exact em_i (w1 := (fun (u : (Nat → Int32)) => (MW cI cJ M mr mi (va_up mf 54 u) mg))) E hr hlk gstack_24 hw25 (Or.inr (⟨(by show 16 ≤ v_13.toInt; omega), (by show v_13.toInt ≤ 15 + ((mf 27) 1).toInt; omega)⟩)) (Nat.le_of_ble_eq_true rfl) (Nat.le_of_ble_eq_true rfl) dX12_lineOf_55
  exact loop_5 (Int.toNat (((mf 27) 1).toInt - 0) + 1) 0 (mf 54) _ _ _ ⟨(by show 0 ≤ (0 : Int32).toInt; have k_0 : (0 : Int32).toInt = 0 := (by decide +kernel); omega), (by show (0 : Int32).toInt ≤ ((mf 27) 1).toInt; have k_0 : (0 : Int32).toInt = 0 := (by decide +kernel); omega)⟩ (by have k_0 : (0 : Int32).toInt = 0 := (by decide +kernel); omega) hw1 (lv_sub hl4 [0, 1, 2] rfl)

set_option maxHeartbeats 4000000 in
set_option maxRecDepth 100000 in
theorem s_asks (l : Launch) (D : va_G) (cI cJ : ClassId) (sz M : Nat) (mr : Nat → Nat) (mi : Nat → Int32) (mf : Nat → Nat → Int32) (mg : Nat → Nat → Int64) (z_h : Int32) (h0 : 0 ≤ z_h.toInt ∧ z_h.toInt ≤ 9) (h1 : 0 ≤ (mi 44).toInt ∧ (mi 44).toInt ≤ 10) : Met l yX12_asks (Cond.code yX12_asks cX12_asks 2 none :: GW) ({ frames := 4, cells := 0, slots := 0, locals := 107 } : Room) (va_Pc [.ref M, .int z_h] (PW D cI cJ sz (MW cI cJ M mr mi mf mg) xT)) (va_Qv (fun (u : (Nat → Int32)) => True) (fun u => QW D cI cJ (va_A (MW cI cJ M mr mi mf mg) sz) ((fun (u : (Nat → Int32)) => (MW cI cJ M mr mi (va_up mf 53 u) mg)) u)) (va_A (MW cI cJ M mr mi mf mg) sz)) 0 0 (va_A (MW cI cJ M mr mi mf mg) sz) := by
  refine mk_met (y := yX12_asks) (bytes := cX12_asks) (maxL := 2) (avs := [.ref M, .int z_h]) (WS := (MW cI cJ M mr mi mf mg)) (Qf := fun A => va_Qv (fun (u : (Nat → Int32)) => True) (fun u => QW D cI cJ A ((fun (u : (Nat → Int32)) => (MW cI cJ M mr mi (va_up mf 53 u) mg)) u)) A) (by decide) (Nat.le_of_ble_eq_true rfl) ?_
  intro p e s m below meth c A ls E hr hlk hnm hX hw1 hl2
  have hl3 : lv_has ls 2 [(0, .ref M), (1, .int z_h)] := hl2
  refine lv_aload_n (pc := 0) E.1 E.2.1 dX12_asks_0 rfl (lv_at hl3 0 rfl) ?_
  refine x_get (pc := 1) (T := TX12) (N := 70) (ci := 12) (v := .ref (mr 53)) E hw1 inX12 0 53 q_1452 rfl rfl (by decide) rfl rfl dX12_asks_1 ?_
  refine lv_iconst (pc := 4) (v := 0) E.1 E.2.1 dX12_asks_4 (by decide +kernel) ?_
  refine lv_iload_n (pc := 5) E.1 E.2.1 dX12_asks_5 rfl (lv_at hl3 1 rfl) ?_
  refine x_iastG (pc := 6) (f := (mf 53)) (wf := fun g => (MW cI cJ M mr mi (va_up mf 53 g) mg)) E hw1 28 rfl (inbE (a := 0) (by decide +kernel) (by omega)) (fun _ => rfl) dX12_asks_6 (fun g_4 H locs eg_4 hw5 => ?_)
  refine lv_aload_n (pc := 7) E.1 E.2.1 dX12_asks_7 rfl (lv_at hl3 0 rfl) ?_
  refine x_get (pc := 8) (T := TX12) (N := 70) (ci := 12) (v := .ref (mr 53)) E hw5 inX12 0 53 q_1452 rfl rfl (by decide) rfl rfl dX12_asks_8 ?_
  refine lv_iconst (pc := 11) (v := 1) E.1 E.2.1 dX12_asks_11 (by decide +kernel) ?_
  refine lv_aload_n (pc := 12) E.1 E.2.1 dX12_asks_12 rfl (lv_at hl3 0 rfl) ?_
  refine x_get (pc := 13) (T := TX12) (N := 70) (ci := 12) (v := .ref (mr 1)) E hw5 inX12 0 1 q_1400 rfl rfl (by decide) rfl rfl dX12_asks_13 ?_
  refine lv_bipush (pc := 16) (v := 16) E.1 E.2.1 dX12_asks_16 (by decide +kernel) ?_
  refine lv_iload_n (pc := 18) E.1 E.2.1 dX12_asks_18 rfl (lv_at hl3 1 rfl) ?_
  refine lv_iadd (pc := 19) E.1 E.2.1 dX12_asks_19 ?_
  refine lv_topi (fun v_6 ev_6 => ?_)
  have hv_6 : v_6.toInt = 16 + z_h.toInt := by rw [ev_6]; exact addE (by decide +kernel) rfl (by omega)
  refine x_iald (pc := 20) (f := (mf 1)) E hw5 1 rfl (inbE (a := v_6.toInt) rfl (by omega)) dX12_asks_20 ?_
  refine lv_topi (fun v_7 ev_7 => ?_)
  refine x_iastG (pc := 21) (f := g_4) (wf := fun g => (MW cI cJ M mr mi (va_up mf 53 g) mg)) E hw5 28 rfl (inbE (a := 1) (by decide +kernel) (by omega)) (fun _ => rfl) dX12_asks_21 (fun g_8 H locs eg_8 hw9 => ?_)
  refine lv_aload_n (pc := 22) E.1 E.2.1 dX12_asks_22 rfl (lv_at hl3 0 rfl) ?_
  refine x_get (pc := 23) (T := TX12) (N := 70) (ci := 12) (v := .ref (mr 53)) E hw9 inX12 0 53 q_1452 rfl rfl (by decide) rfl rfl dX12_asks_23 ?_
  refine lv_iconst (pc := 26) (v := 2) E.1 E.2.1 dX12_asks_26 (by decide +kernel) ?_
  refine lv_aload_n (pc := 27) E.1 E.2.1 dX12_asks_27 rfl (lv_at hl3 0 rfl) ?_
  refine lv_iload_n (pc := 28) E.1 E.2.1 dX12_asks_28 rfl (lv_at hl3 1 rfl) ?_
  refine cm_i (pc := 29) hw9 (rn_M (As := [.int z_h]) (rest := [.int 2, .ref (mr 53)]) E hw9 (s_sinceLast l D cI cJ _ M mr mi (va_up mf 53 g_8) mg z_h h0) (gdV q_1863 q_1865 q_98 q_162 q_1866) hdV_X12_sinceLast ⟨rfl, rfl⟩ ⟨(Nat.le_of_ble_eq_true rfl), (Nat.le_of_ble_eq_true rfl)⟩ ⟨(Nat.le_of_ble_eq_true rfl), (Nat.le_of_ble_eq_true rfl)⟩ 12 rfl rfl rfl rfl hl3.1 rfl (Nat.le_of_ble_eq_true rfl) dX12_asks_29) (fun r_11 u_10 H1 locs hp hw12 => ?_)
  generalize H1 = H at hw12 ⊢
  have hw13 : WD D A s.heap (MW cI cJ M mr mi (va_up mf 53 g_8) mg) H locs := hw12
  refine x_iastG (pc := 32) (f := g_8) (wf := fun g => (MW cI cJ M mr mi (va_up mf 53 g) mg)) E hw13 28 rfl (inbE (a := 2) (by decide +kernel) (by omega)) (fun _ => rfl) dX12_asks_32 (fun g_14 H locs eg_14 hw15 => ?_)
  refine lv_aload_n (pc := 33) E.1 E.2.1 dX12_asks_33 rfl (lv_at hl3 0 rfl) ?_
  refine x_get (pc := 34) (T := TX12) (N := 70) (ci := 12) (v := .ref (mr 53)) E hw15 inX12 0 53 q_1452 rfl rfl (by decide) rfl rfl dX12_asks_34 ?_
  refine lv_iconst (pc := 37) (v := 3) E.1 E.2.1 dX12_asks_37 (by decide +kernel) ?_
  refine lv_aload_n (pc := 38) E.1 E.2.1 dX12_asks_38 rfl (lv_at hl3 0 rfl) ?_
  refine x_get (pc := 39) (T := TX12) (N := 70) (ci := 12) (v := .ref (mr 1)) E hw15 inX12 0 1 q_1400 rfl rfl (by decide) rfl rfl dX12_asks_39 ?_
  refine lv_iconst (pc := 42) (v := 4) E.1 E.2.1 dX12_asks_42 (by decide +kernel) ?_
  refine x_iald (pc := 43) (f := (mf 1)) E hw15 1 rfl (inbE (a := 4) (by decide +kernel) (by omega)) dX12_asks_43 ?_
  refine lv_topi (fun v_16 ev_16 => ?_)
  refine x_iastG (pc := 44) (f := g_14) (wf := fun g => (MW cI cJ M mr mi (va_up mf 53 g) mg)) E hw15 28 rfl (inbE (a := 3) (by decide +kernel) (by omega)) (fun _ => rfl) dX12_asks_44 (fun g_17 H locs eg_17 hw18 => ?_)
  refine lv_aload_n (pc := 45) E.1 E.2.1 dX12_asks_45 rfl (lv_at hl3 0 rfl) ?_
  refine x_get (pc := 46) (T := TX12) (N := 70) (ci := 12) (v := .ref (mr 53)) E hw18 inX12 0 53 q_1452 rfl rfl (by decide) rfl rfl dX12_asks_46 ?_
  refine lv_iconst (pc := 49) (v := 4) E.1 E.2.1 dX12_asks_49 (by decide +kernel) ?_
  refine lv_aload_n (pc := 50) E.1 E.2.1 dX12_asks_50 rfl (lv_at hl3 0 rfl) ?_
  refine x_get (pc := 51) (T := TX12) (N := 70) (ci := 12) (v := .ref (mr 1)) E hw18 inX12 0 1 q_1400 rfl rfl (by decide) rfl rfl dX12_asks_51 ?_
  refine lv_bipush (pc := 54) (v := 6) E.1 E.2.1 dX12_asks_54 (by decide +kernel) ?_
  refine lv_iload_n (pc := 56) E.1 E.2.1 dX12_asks_56 rfl (lv_at hl3 1 rfl) ?_
  refine lv_iadd (pc := 57) E.1 E.2.1 dX12_asks_57 ?_
  refine lv_topi (fun v_19 ev_19 => ?_)
  have hv_19 : v_19.toInt = 6 + z_h.toInt := by rw [ev_19]; exact addE (by decide +kernel) rfl (by omega)
  refine x_iald (pc := 58) (f := (mf 1)) E hw18 1 rfl (inbE (a := v_19.toInt) rfl (by omega)) dX12_asks_58 ?_
  refine lv_topi (fun v_20 ev_20 => ?_)
  refine x_iastG (pc := 59) (f := g_17) (wf := fun g => (MW cI cJ M mr mi (va_up mf 53 g) mg)) E hw18 28 rfl (inbE (a := 4) (by decide +kernel) (by omega)) (fun _ => rfl) dX12_asks_59 (fun g_21 H locs eg_21 hw22 => ?_)
  refine lv_aload_n (pc := 60) E.1 E.2.1 dX12_asks_60 rfl (lv_at hl3 0 rfl) ?_
  refine x_get (pc := 61) (T := TX12) (N := 70) (ci := 12) (v := .ref (mr 53)) E hw22 inX12 0 53 q_1452 rfl rfl (by decide) rfl rfl dX12_asks_61 ?_
  refine lv_iconst (pc := 64) (v := 5) E.1 E.2.1 dX12_asks_64 (by decide +kernel) ?_
  refine lv_aload_n (pc := 65) E.1 E.2.1 dX12_asks_65 rfl (lv_at hl3 0 rfl) ?_
  refine x_get (pc := 66) (T := TX12) (N := 70) (ci := 12) (v := .ref (mr 1)) E hw22 inX12 0 1 q_1400 rfl rfl (by decide) rfl rfl dX12_asks_66 ?_
  refine lv_iconst (pc := 69) (v := 0) E.1 E.2.1 dX12_asks_69 (by decide +kernel) ?_
  refine x_iald (pc := 70) (f := (mf 1)) E hw22 1 rfl (inbE (a := 0) (by decide +kernel) (by omega)) dX12_asks_70 ?_
  refine lv_topi (fun v_23 ev_23 => ?_)
  refine lv_bipush (pc := 71) (v := 120) E.1 E.2.1 dX12_asks_71 (by decide +kernel) ?_
  refine lv_irem (pc := 73) E.1 E.2.1 dX12_asks_73 (by decide +kernel) ?_
  refine lv_topi (fun v_24 ev_24 => ?_)
  refine lv_bipush (pc := 74) (v := 30) E.1 E.2.1 dX12_asks_74 (by decide +kernel) ?_
  refine lv_idiv (pc := 76) E.1 E.2.1 dX12_asks_76 (by decide +kernel) ?_
  refine lv_topi (fun v_25 ev_25 => ?_)
  refine x_iastG (pc := 77) (f := g_21) (wf := fun g => (MW cI cJ M mr mi (va_up mf 53 g) mg)) E hw22 28 rfl (inbE (a := 5) (by decide +kernel) (by omega)) (fun _ => rfl) dX12_asks_77 (fun g_26 H locs eg_26 hw27 => ?_)
  refine lv_aload_n (pc := 78) E.1 E.2.1 dX12_asks_78 rfl (lv_at hl3 0 rfl) ?_
  refine x_get (pc := 79) (T := TX12) (N := 70) (ci := 12) (v := .ref (mr 53)) E hw27 inX12 0 53 q_1452 rfl rfl (by decide) rfl rfl dX12_asks_79 ?_
  refine lv_bipush (pc := 82) (v := 6) E.1 E.2.1 dX12_asks_82 (by decide +kernel) ?_
  refine lv_aload_n (pc := 84) E.1 E.2.1 dX12_asks_84 rfl (lv_at hl3 0 rfl) ?_
  refine x_get (pc := 85) (T := TX12) (N := 70) (ci := 12) (v := .ref (mr 8)) E hw27 inX12 0 8 q_1407 rfl rfl (by decide) rfl rfl dX12_asks_85 ?_
  refine lv_iload_n (pc := 88) E.1 E.2.1 dX12_asks_88 rfl (lv_at hl3 1 rfl) ?_
  refine x_iald (pc := 89) (f := (mf 8)) E hw27 5 rfl (inbE (a := z_h.toInt) rfl (by omega)) dX12_asks_89 ?_
  refine lv_topi (fun v_28 ev_28 => ?_)
  refine x_iastG (pc := 90) (f := g_26) (wf := fun g => (MW cI cJ M mr mi (va_up mf 53 g) mg)) E hw27 28 rfl (inbE (a := 6) (by decide +kernel) (by omega)) (fun _ => rfl) dX12_asks_90 (fun g_29 H locs eg_29 hw30 => ?_)
  refine lv_aload_n (pc := 91) E.1 E.2.1 dX12_asks_91 rfl (lv_at hl3 0 rfl) ?_
  refine x_get (pc := 92) (T := TX12) (N := 70) (ci := 12) (v := .ref (mr 53)) E hw30 inX12 0 53 q_1452 rfl rfl (by decide) rfl rfl dX12_asks_92 ?_
  refine lv_bipush (pc := 95) (v := 7) E.1 E.2.1 dX12_asks_95 (by decide +kernel) ?_
  refine lv_aload_n (pc := 97) E.1 E.2.1 dX12_asks_97 rfl (lv_at hl3 0 rfl) ?_
  refine lv_iload_n (pc := 98) E.1 E.2.1 dX12_asks_98 rfl (lv_at hl3 1 rfl) ?_
  refine cm_i (pc := 99) hw30 (rn_M (As := [.int z_h]) (rest := [.int 7, .ref (mr 53)]) E hw30 (s_worthAt l D cI cJ _ M mr mi (va_up mf 53 g_29) mg z_h h1) (gdV q_1867 q_1869 q_99 q_162 q_1870) hdV_X12_worthAt ⟨rfl, rfl⟩ ⟨(Nat.le_of_ble_eq_true rfl), (Nat.le_of_ble_eq_true rfl)⟩ ⟨(Nat.le_of_ble_eq_true rfl), (Nat.le_of_ble_eq_true rfl)⟩ 12 rfl rfl rfl rfl hl3.1 rfl (Nat.le_of_ble_eq_true rfl) dX12_asks_99) (fun r_32 u_31 H1 locs hp hw33 => ?_)
  generalize H1 = H at hw33 ⊢
  have hw34 : WD D A s.heap (MW cI cJ M mr mi (va_up mf 53 g_29) mg) H locs := hw33
  refine x_iastG (pc := 102) (f := g_29) (wf := fun g => (MW cI cJ M mr mi (va_up mf 53 g) mg)) E hw34 28 rfl (inbE (a := 7) (by decide +kernel) (by omega)) (fun _ => rfl) dX12_asks_102 (fun g_35 H locs eg_35 hw36 => ?_)
  exact em_v (w1 := (fun (u : (Nat → Int32)) => (MW cI cJ M mr mi (va_up mf 53 u) mg))) E hr hlk g_35 hw36 trivial (Nat.le_of_ble_eq_true rfl) (Nat.le_of_ble_eq_true rfl) dX12_asks_103

set_option maxHeartbeats 4000000 in
set_option maxRecDepth 100000 in
theorem s_turnOfHouse (l : Launch) (D : va_G) (cI cJ : ClassId) (sz M : Nat) (mr : Nat → Nat) (mi : Nat → Int32) (mf : Nat → Nat → Int32) (mg : Nat → Nat → Int64) (z_h : Int32) (h0 : 0 ≤ z_h.toInt ∧ z_h.toInt ≤ 9) (h1 : 0 ≤ ((mf 1) 3).toInt ∧ ((mf 1) 3).toInt ≤ 9) (h2 : 0 ≤ (mi 44).toInt ∧ (mi 44).toInt ≤ 10) (h3 : 0 ≤ ((mf 27) 0).toInt) (h4 : ((mf 27) 0).toInt ≤ 16) (h5 : 0 ≤ ((mf 27) 1).toInt) (h6 : ((mf 27) 1).toInt ≤ 16) (lf_law0 : LW 0 0 (mf 31) (mf 32) (mf 28) (mf 29) (mf 30) ((mf 27) 0).toInt 400) : Met l yX12_turnOfHouse (Cond.code yX12_turnOfHouse cX12_turnOfHouse 4 (some .int) :: GW) ({ frames := 5, cells := 0, slots := 0, locals := 128 } : Room) (va_Pc [.ref M, .int z_h] (PW D cI cJ sz (MW cI cJ M mr mi mf mg) xT)) (va_Qi (fun (r : Int32) (u : (Nat → Int32) × (Nat → Int32)) => True) (fun u => QW D cI cJ (va_A (MW cI cJ M mr mi mf mg) sz) ((fun (u : (Nat → Int32) × (Nat → Int32)) => (MW cI cJ M mr mi (va_up (va_up mf 53 u.1) 54 u.2) mg)) u)) (va_A (MW cI cJ M mr mi mf mg) sz)) 0 0 (va_A (MW cI cJ M mr mi mf mg) sz) := by
  refine mk_met (y := yX12_turnOfHouse) (bytes := cX12_turnOfHouse) (maxL := 4) (avs := [.ref M, .int z_h]) (WS := (MW cI cJ M mr mi mf mg)) (Qf := fun A => va_Qi (fun (r : Int32) (u : (Nat → Int32) × (Nat → Int32)) => True) (fun u => QW D cI cJ A ((fun (u : (Nat → Int32) × (Nat → Int32)) => (MW cI cJ M mr mi (va_up (va_up mf 53 u.1) 54 u.2) mg)) u)) A) (by decide) (Nat.le_of_ble_eq_true rfl) ?_
  intro p e s m below meth c A ls E hr hlk hnm hX hw1 hl2
  have hl3 : lv_has ls 4 [(0, .ref M), (1, .int z_h)] := hl2
  refine lv_aload_n (pc := 0) E.1 E.2.1 dX12_turnOfHouse_0 rfl (lv_at hl3 0 rfl) ?_
  refine x_get (pc := 1) (T := TX12) (N := 70) (ci := 12) (v := .ref (mr 55)) E hw1 inX12 0 55 q_1454 rfl rfl (by decide) rfl rfl dX12_turnOfHouse_1 ?_
  refine lv_bipush (pc := 4) (v := 10) E.1 E.2.1 dX12_turnOfHouse_4 (by decide +kernel) ?_
  refine lv_aload_n (pc := 6) E.1 E.2.1 dX12_turnOfHouse_6 rfl (lv_at hl3 0 rfl) ?_
  refine x_get (pc := 7) (T := TX12) (N := 70) (ci := 12) (v := .ref (mr 1)) E hw1 inX12 0 1 q_1400 rfl rfl (by decide) rfl rfl dX12_turnOfHouse_7 ?_
  refine lv_iconst (pc := 10) (v := 3) E.1 E.2.1 dX12_turnOfHouse_10 (by decide +kernel) ?_
  refine x_iald (pc := 11) (f := (mf 1)) E hw1 1 rfl (inbE (a := 3) (by decide +kernel) (by omega)) dX12_turnOfHouse_11 ?_
  refine lv_topi (fun v_4 ev_4 => ?_)
  have hv_4 : v_4.toInt = ((mf 1) 3).toInt := by rw [ev_4]; rfl
  refine lv_imul (pc := 12) E.1 E.2.1 dX12_turnOfHouse_12 ?_
  refine lv_topi (fun v_5 ev_5 => ?_)
  have hv_5 : v_5.toInt = 10 * v_4.toInt := by rw [ev_5]; exact mulE (by decide +kernel) rfl (by omega)
  refine lv_iload_n (pc := 13) E.1 E.2.1 dX12_turnOfHouse_13 rfl (lv_at hl3 1 rfl) ?_
  refine lv_iadd (pc := 14) E.1 E.2.1 dX12_turnOfHouse_14 ?_
  refine lv_topi (fun v_6 ev_6 => ?_)
  have hv_6 : v_6.toInt = v_5.toInt + z_h.toInt := by rw [ev_6]; exact addE rfl rfl (by omega)
  refine x_iald (pc := 15) (f := (mf 55)) E hw1 30 rfl (inbE (a := v_6.toInt) rfl (by omega)) dX12_turnOfHouse_15 ?_
  refine lv_topi (fun v_7 ev_7 => ?_)
  refine lv_istore_n (pc := 16) (lv' := [(2, .int v_7), (0, .ref M), (1, .int z_h)]) E.1 E.2.1 dX12_turnOfHouse_16 rfl hl3 (by decide) rfl (fun ls hl8 => ?_)
  refine lv_aload_n (pc := 17) E.1 E.2.1 dX12_turnOfHouse_17 rfl (lv_at hl8 1 rfl) ?_
  refine lv_iload_n (pc := 18) E.1 E.2.1 dX12_turnOfHouse_18 rfl (lv_at hl8 2 rfl) ?_
  refine cm_v (pc := 19) hw1 (rn_M (As := [.int z_h]) (rest := []) E hw1 (s_asks l D cI cJ _ M mr mi mf mg z_h h0 h2) (gdV q_1859 q_1861 q_97 q_162 q_1862) hdV_X12_asks ⟨rfl, rfl⟩ ⟨(Nat.le_of_ble_eq_true rfl), (Nat.le_of_ble_eq_true rfl)⟩ ⟨(Nat.le_of_ble_eq_true rfl), (Nat.le_of_ble_eq_true rfl)⟩ 12 rfl rfl rfl rfl hl8.1 rfl (Nat.le_of_ble_eq_true rfl) dX12_turnOfHouse_19) (fun u_9 H1 locs hp hw11 => ?_)
  obtain ⟨gasked_12, rfl⟩ : ∃ z, z = u_9 := ⟨_, rfl⟩
  generalize H1 = H at hw11 ⊢
  have hw13 : WD D A s.heap (MW cI cJ M mr mi (va_up mf 53 gasked_12) mg) H locs := hw11
  refine lv_aload_n (pc := 22) E.1 E.2.1 dX12_turnOfHouse_22 rfl (lv_at hl8 1 rfl) ?_
  refine x_get (pc := 23) (T := TX12) (N := 70) (ci := 12) (v := .ref (mr 53)) E hw13 inX12 0 53 q_1452 rfl rfl (by decide) rfl rfl dX12_turnOfHouse_23 ?_
  refine lv_bipush (pc := 26) (v := 8) E.1 E.2.1 dX12_turnOfHouse_26 (by decide +kernel) ?_
  refine lv_iload_n (pc := 28) E.1 E.2.1 dX12_turnOfHouse_28 rfl (lv_at hl8 0 rfl) ?_
  refine lv_ldcw (pc := 29) (v := 100000) E.1 E.2.1 E.2.2.2.1 (E.2.2.2.2.1 _ q_1826) dX12_turnOfHouse_29 ?_
  refine lv_icmp_lt (pc := 32) (tgt := 40) E.1 E.2.1 dX12_turnOfHouse_32 (by decide) (fun c_14 => ?_) (fun c_14 => ?_)
  · skip
    have hc_14 := ltE (a := v_7.toInt) (b := 100000) rfl (by decide +kernel) c_14
    refine lv_iload_n (pc := 40) E.1 E.2.1 dX12_turnOfHouse_40 rfl (lv_at hl8 0 rfl) ?_
    refine x_iastG (pc := 41) (f := gasked_12) (wf := fun g => (MW cI cJ M mr mi (va_up mf 53 g) mg)) E hw13 28 rfl (inbE (a := 8) (by decide +kernel) (by omega)) (fun _ => rfl) dX12_turnOfHouse_41 (fun g_15 H locs eg_15 hw16 => ?_)
    refine lv_aload_n (pc := 42) E.1 E.2.1 dX12_turnOfHouse_42 rfl (lv_at hl8 1 rfl) ?_
    refine x_get (pc := 43) (T := TX12) (N := 70) (ci := 12) (v := .ref (mr 53)) E hw16 inX12 0 53 q_1452 rfl rfl (by decide) rfl rfl dX12_turnOfHouse_43 ?_
    refine lv_bipush (pc := 46) (v := 9) E.1 E.2.1 dX12_turnOfHouse_46 (by decide +kernel) ?_
    refine lv_aload_n (pc := 48) E.1 E.2.1 dX12_turnOfHouse_48 rfl (lv_at hl8 1 rfl) ?_
    refine x_get (pc := 49) (T := TX12) (N := 70) (ci := 12) (v := .ref (mr 9)) E hw16 inX12 0 9 q_1408 rfl rfl (by decide) rfl rfl dX12_turnOfHouse_49 ?_
    refine lv_iload_n (pc := 52) E.1 E.2.1 dX12_turnOfHouse_52 rfl (lv_at hl8 2 rfl) ?_
    refine x_iald (pc := 53) (f := (mf 9)) E hw16 6 rfl (inbE (a := z_h.toInt) rfl (by omega)) dX12_turnOfHouse_53 ?_
    refine lv_topi (fun v_17 ev_17 => ?_)
    refine x_iastG (pc := 54) (f := g_15) (wf := fun g => (MW cI cJ M mr mi (va_up mf 53 g) mg)) E hw16 28 rfl (inbE (a := 9) (by decide +kernel) (by omega)) (fun _ => rfl) dX12_turnOfHouse_54 (fun g_18 H locs eg_18 hw19 => ?_)
    refine lv_aload_n (pc := 55) E.1 E.2.1 dX12_turnOfHouse_55 rfl (lv_at hl8 1 rfl) ?_
    refine lv_iconst (pc := 56) (v := 0) E.1 E.2.1 dX12_turnOfHouse_56 (by decide +kernel) ?_
    refine cm_i (pc := 57) hw19 (rn_M (As := [.int 0]) (rest := []) E hw19 (s_lineOf0 l D cI cJ _ M mr mi (va_up mf 53 g_18) mg h3 h4 h5 h6 (show LW 0 0 (mf 31) (mf 32) (mf 28) (mf 29) (mf 30) ((mf 27) 0).toInt 400 from lf_law0)) (gdV q_1879 q_1881 q_102 q_162 q_1882) hdV_X12_lineOf ⟨rfl, rfl⟩ ⟨(Nat.le_of_ble_eq_true rfl), (Nat.le_of_ble_eq_true rfl)⟩ ⟨(Nat.le_of_ble_eq_true rfl), (Nat.le_of_ble_eq_true rfl)⟩ 12 rfl rfl rfl rfl hl8.1 rfl (Nat.le_of_ble_eq_true rfl) dX12_turnOfHouse_57) (fun r_21 u_20 H1 locs hp hw22 => ?_)
    obtain ⟨gstack_23, rfl⟩ : ∃ z, z = u_20 := ⟨_, rfl⟩
    generalize H1 = H at hw22 ⊢
    have hw24 : WD D A s.heap (MW cI cJ M mr mi (va_up (va_up mf 53 g_18) 54 gstack_23) mg) H locs := hw22
    have hp_25 := hp
    rcases hp_25 with rfl | ⟨ha_26, ha_27⟩
    · skip
      refine lv_istore_n (pc := 60) (lv' := [(3, .int (-1)), (2, .int v_7), (0, .ref M), (1, .int z_h)]) E.1 E.2.1 dX12_turnOfHouse_60 rfl hl8 (by decide) rfl (fun ls hl28 => ?_)
      refine lv_iload_n (pc := 61) E.1 E.2.1 dX12_turnOfHouse_61 rfl (lv_at hl28 0 rfl) ?_
      refine lv_iconst (pc := 62) (v := (-1)) E.1 E.2.1 dX12_turnOfHouse_62 (by decide +kernel) ?_
      refine lv_icmp_ne (pc := 63) (tgt := 75) E.1 E.2.1 dX12_turnOfHouse_63 (by decide) (fun c_29 => absurd (meqE (a := (-1)) (b := (-1)) (by decide +kernel) (by decide +kernel) (by omega)) c_29) (fun _ => ?_)
      refine lv_aload_n (pc := 66) E.1 E.2.1 dX12_turnOfHouse_66 rfl (lv_at hl28 2 rfl) ?_
      refine x_get (pc := 67) (T := TX12) (N := 70) (ci := 12) (v := .ref (mr 53)) E hw24 inX12 0 53 q_1452 rfl rfl (by decide) rfl rfl dX12_turnOfHouse_67 ?_
      refine lv_iconst (pc := 70) (v := 2) E.1 E.2.1 dX12_turnOfHouse_70 (by decide +kernel) ?_
      refine x_iald (pc := 71) (f := g_18) E hw24 28 rfl (inbE (a := 2) (by decide +kernel) (by omega)) dX12_turnOfHouse_71 ?_
      refine lv_topi (fun v_30 ev_30 => ?_)
      refine lv_goto (pc := 72) (tgt := 92) E.1 E.2.1 dX12_turnOfHouse_72 (by decide) ?_
      exact em_i (w1 := (fun (u : (Nat → Int32) × (Nat → Int32)) => (MW cI cJ M mr mi (va_up (va_up mf 53 u.1) 54 u.2) mg))) E hr hlk (g_18, gstack_23) hw24 trivial (Nat.le_of_ble_eq_true rfl) (Nat.le_of_ble_eq_true rfl) dX12_turnOfHouse_92
    · skip
      have ha_26 : 0 ≤ r_21.toInt := ha_26
      have ha_27 : r_21.toInt ≤ (-1) + ((mf 27) 0).toInt := ha_27
      refine lv_istore_n (pc := 60) (lv' := [(3, .int r_21), (2, .int v_7), (0, .ref M), (1, .int z_h)]) E.1 E.2.1 dX12_turnOfHouse_60 rfl hl8 (by decide) rfl (fun ls hl31 => ?_)
      refine lv_iload_n (pc := 61) E.1 E.2.1 dX12_turnOfHouse_61 rfl (lv_at hl31 0 rfl) ?_
      refine lv_iconst (pc := 62) (v := (-1)) E.1 E.2.1 dX12_turnOfHouse_62 (by decide +kernel) ?_
      refine lv_icmp_ne (pc := 63) (tgt := 75) E.1 E.2.1 dX12_turnOfHouse_63 (by decide) (fun _ => ?_) (fun c_32 => absurd c_32 (mneE (a := r_21.toInt) (b := (-1)) rfl (by decide +kernel) (by omega)))
      refine lv_aload_n (pc := 75) E.1 E.2.1 dX12_turnOfHouse_75 rfl (lv_at hl31 2 rfl) ?_
      refine lv_iconst (pc := 76) (v := 0) E.1 E.2.1 dX12_turnOfHouse_76 (by decide +kernel) ?_
      refine lv_aload_n (pc := 77) E.1 E.2.1 dX12_turnOfHouse_77 rfl (lv_at hl31 2 rfl) ?_
      refine x_get (pc := 78) (T := TX12) (N := 70) (ci := 12) (v := .ref (mr 28)) E hw24 inX12 0 28 q_1427 rfl rfl (by decide) rfl rfl dX12_turnOfHouse_78 ?_
      refine lv_iload_n (pc := 81) E.1 E.2.1 dX12_turnOfHouse_81 rfl (lv_at hl31 0 rfl) ?_
      refine x_iald (pc := 82) (f := (mf 28)) E hw24 15 rfl (inbE (a := r_21.toInt) rfl (by omega)) dX12_turnOfHouse_82 ?_
      refine lv_topi (fun v_33 ev_33 => ?_)
      refine lv_aload_n (pc := 83) E.1 E.2.1 dX12_turnOfHouse_83 rfl (lv_at hl31 2 rfl) ?_
      refine x_get (pc := 84) (T := TX12) (N := 70) (ci := 12) (v := .ref (mr 29)) E hw24 inX12 0 29 q_1428 rfl rfl (by decide) rfl rfl dX12_turnOfHouse_84 ?_
      refine lv_iload_n (pc := 87) E.1 E.2.1 dX12_turnOfHouse_87 rfl (lv_at hl31 0 rfl) ?_
      refine x_iald (pc := 88) (f := (mf 29)) E hw24 16 rfl (inbE (a := r_21.toInt) rfl (by omega)) dX12_turnOfHouse_88 ?_
      refine lv_topi (fun v_34 ev_34 => ?_)
      have hlw_35 := LW_at lf_law0 (l := r_21) (by omega)
      have hlw_35a : 0 ≤ v_33.toInt ∧ v_33.toInt ≤ v_34.toInt ∧ v_34.toInt ≤ 400 := by rw [ev_33, ev_34]; omega
      refine cm_i (pc := 89) hw24 (rn_M (As := [.int 0, .int v_33, .int v_34]) (rest := []) E hw24 (s_runs0 l D cI cJ _ M mr mi (va_up (va_up mf 53 g_18) 54 gstack_23) mg v_33 v_34 (by show 0 ≤ v_33.toInt; omega) (by show v_33.toInt ≤ v_34.toInt; omega) (by show v_34.toInt ≤ 400; omega) (show DP (mf 31) (mf 32) (0 + v_33.toInt.toNat) (0 + v_34.toInt.toNat) 1 from (by rw [ev_33, ev_34]; exact hlw_35.2.1))) (gdV q_1883 q_1885 q_103 q_162 q_1886) hdV_X12_runs ⟨rfl, rfl⟩ ⟨(Nat.le_of_ble_eq_true rfl), (Nat.le_of_ble_eq_true rfl)⟩ ⟨(Nat.le_of_ble_eq_true rfl), (Nat.le_of_ble_eq_true rfl)⟩ 12 rfl rfl rfl rfl hl31.1 rfl (Nat.le_of_ble_eq_true rfl) dX12_turnOfHouse_89) (fun r_37 u_36 H1 locs hp hw38 => ?_)
      obtain ⟨gstack_39, rfl⟩ : ∃ z, z = u_36 := ⟨_, rfl⟩
      generalize H1 = H at hw38 ⊢
      have hw40 : WD D A s.heap (MW cI cJ M mr mi (va_up (va_up mf 53 g_18) 54 gstack_39) mg) H locs := hw38
      exact em_i (w1 := (fun (u : (Nat → Int32) × (Nat → Int32)) => (MW cI cJ M mr mi (va_up (va_up mf 53 u.1) 54 u.2) mg))) E hr hlk (g_18, gstack_39) hw40 trivial (Nat.le_of_ble_eq_true rfl) (Nat.le_of_ble_eq_true rfl) dX12_turnOfHouse_92
  · skip
    have hc_14 := nltE (a := v_7.toInt) (b := 100000) rfl (by decide +kernel) c_14
    refine lv_bipush (pc := 35) (v := 99) E.1 E.2.1 dX12_turnOfHouse_35 (by decide +kernel) ?_
    refine lv_goto (pc := 37) (tgt := 41) E.1 E.2.1 dX12_turnOfHouse_37 (by decide) ?_
    refine x_iastG (pc := 41) (f := gasked_12) (wf := fun g => (MW cI cJ M mr mi (va_up mf 53 g) mg)) E hw13 28 rfl (inbE (a := 8) (by decide +kernel) (by omega)) (fun _ => rfl) dX12_turnOfHouse_41 (fun g_41 H locs eg_41 hw42 => ?_)
    refine lv_aload_n (pc := 42) E.1 E.2.1 dX12_turnOfHouse_42 rfl (lv_at hl8 1 rfl) ?_
    refine x_get (pc := 43) (T := TX12) (N := 70) (ci := 12) (v := .ref (mr 53)) E hw42 inX12 0 53 q_1452 rfl rfl (by decide) rfl rfl dX12_turnOfHouse_43 ?_
    refine lv_bipush (pc := 46) (v := 9) E.1 E.2.1 dX12_turnOfHouse_46 (by decide +kernel) ?_
    refine lv_aload_n (pc := 48) E.1 E.2.1 dX12_turnOfHouse_48 rfl (lv_at hl8 1 rfl) ?_
    refine x_get (pc := 49) (T := TX12) (N := 70) (ci := 12) (v := .ref (mr 9)) E hw42 inX12 0 9 q_1408 rfl rfl (by decide) rfl rfl dX12_turnOfHouse_49 ?_
    refine lv_iload_n (pc := 52) E.1 E.2.1 dX12_turnOfHouse_52 rfl (lv_at hl8 2 rfl) ?_
    refine x_iald (pc := 53) (f := (mf 9)) E hw42 6 rfl (inbE (a := z_h.toInt) rfl (by omega)) dX12_turnOfHouse_53 ?_
    refine lv_topi (fun v_43 ev_43 => ?_)
    refine x_iastG (pc := 54) (f := g_41) (wf := fun g => (MW cI cJ M mr mi (va_up mf 53 g) mg)) E hw42 28 rfl (inbE (a := 9) (by decide +kernel) (by omega)) (fun _ => rfl) dX12_turnOfHouse_54 (fun g_44 H locs eg_44 hw45 => ?_)
    refine lv_aload_n (pc := 55) E.1 E.2.1 dX12_turnOfHouse_55 rfl (lv_at hl8 1 rfl) ?_
    refine lv_iconst (pc := 56) (v := 0) E.1 E.2.1 dX12_turnOfHouse_56 (by decide +kernel) ?_
    refine cm_i (pc := 57) hw45 (rn_M (As := [.int 0]) (rest := []) E hw45 (s_lineOf0 l D cI cJ _ M mr mi (va_up mf 53 g_44) mg h3 h4 h5 h6 (show LW 0 0 (mf 31) (mf 32) (mf 28) (mf 29) (mf 30) ((mf 27) 0).toInt 400 from lf_law0)) (gdV q_1879 q_1881 q_102 q_162 q_1882) hdV_X12_lineOf ⟨rfl, rfl⟩ ⟨(Nat.le_of_ble_eq_true rfl), (Nat.le_of_ble_eq_true rfl)⟩ ⟨(Nat.le_of_ble_eq_true rfl), (Nat.le_of_ble_eq_true rfl)⟩ 12 rfl rfl rfl rfl hl8.1 rfl (Nat.le_of_ble_eq_true rfl) dX12_turnOfHouse_57) (fun r_47 u_46 H1 locs hp hw48 => ?_)
    obtain ⟨gstack_49, rfl⟩ : ∃ z, z = u_46 := ⟨_, rfl⟩
    generalize H1 = H at hw48 ⊢
    have hw50 : WD D A s.heap (MW cI cJ M mr mi (va_up (va_up mf 53 g_44) 54 gstack_49) mg) H locs := hw48
    have hp_51 := hp
    rcases hp_51 with rfl | ⟨ha_52, ha_53⟩
    · skip
      refine lv_istore_n (pc := 60) (lv' := [(3, .int (-1)), (2, .int v_7), (0, .ref M), (1, .int z_h)]) E.1 E.2.1 dX12_turnOfHouse_60 rfl hl8 (by decide) rfl (fun ls hl54 => ?_)
      refine lv_iload_n (pc := 61) E.1 E.2.1 dX12_turnOfHouse_61 rfl (lv_at hl54 0 rfl) ?_
      refine lv_iconst (pc := 62) (v := (-1)) E.1 E.2.1 dX12_turnOfHouse_62 (by decide +kernel) ?_
      refine lv_icmp_ne (pc := 63) (tgt := 75) E.1 E.2.1 dX12_turnOfHouse_63 (by decide) (fun c_55 => absurd (meqE (a := (-1)) (b := (-1)) (by decide +kernel) (by decide +kernel) (by omega)) c_55) (fun _ => ?_)
      refine lv_aload_n (pc := 66) E.1 E.2.1 dX12_turnOfHouse_66 rfl (lv_at hl54 2 rfl) ?_
      refine x_get (pc := 67) (T := TX12) (N := 70) (ci := 12) (v := .ref (mr 53)) E hw50 inX12 0 53 q_1452 rfl rfl (by decide) rfl rfl dX12_turnOfHouse_67 ?_
      refine lv_iconst (pc := 70) (v := 2) E.1 E.2.1 dX12_turnOfHouse_70 (by decide +kernel) ?_
      refine x_iald (pc := 71) (f := g_44) E hw50 28 rfl (inbE (a := 2) (by decide +kernel) (by omega)) dX12_turnOfHouse_71 ?_
      refine lv_topi (fun v_56 ev_56 => ?_)
      refine lv_goto (pc := 72) (tgt := 92) E.1 E.2.1 dX12_turnOfHouse_72 (by decide) ?_
      exact em_i (w1 := (fun (u : (Nat → Int32) × (Nat → Int32)) => (MW cI cJ M mr mi (va_up (va_up mf 53 u.1) 54 u.2) mg))) E hr hlk (g_44, gstack_49) hw50 trivial (Nat.le_of_ble_eq_true rfl) (Nat.le_of_ble_eq_true rfl) dX12_turnOfHouse_92
    · skip
      have ha_52 : 0 ≤ r_47.toInt := ha_52
      have ha_53 : r_47.toInt ≤ (-1) + ((mf 27) 0).toInt := ha_53
      refine lv_istore_n (pc := 60) (lv' := [(3, .int r_47), (2, .int v_7), (0, .ref M), (1, .int z_h)]) E.1 E.2.1 dX12_turnOfHouse_60 rfl hl8 (by decide) rfl (fun ls hl57 => ?_)
      refine lv_iload_n (pc := 61) E.1 E.2.1 dX12_turnOfHouse_61 rfl (lv_at hl57 0 rfl) ?_
      refine lv_iconst (pc := 62) (v := (-1)) E.1 E.2.1 dX12_turnOfHouse_62 (by decide +kernel) ?_
      refine lv_icmp_ne (pc := 63) (tgt := 75) E.1 E.2.1 dX12_turnOfHouse_63 (by decide) (fun _ => ?_) (fun c_58 => absurd c_58 (mneE (a := r_47.toInt) (b := (-1)) rfl (by decide +kernel) (by omega)))
      refine lv_aload_n (pc := 75) E.1 E.2.1 dX12_turnOfHouse_75 rfl (lv_at hl57 2 rfl) ?_
      refine lv_iconst (pc := 76) (v := 0) E.1 E.2.1 dX12_turnOfHouse_76 (by decide +kernel) ?_
      refine lv_aload_n (pc := 77) E.1 E.2.1 dX12_turnOfHouse_77 rfl (lv_at hl57 2 rfl) ?_
      refine x_get (pc := 78) (T := TX12) (N := 70) (ci := 12) (v := .ref (mr 28)) E hw50 inX12 0 28 q_1427 rfl rfl (by decide) rfl rfl dX12_turnOfHouse_78 ?_
      refine lv_iload_n (pc := 81) E.1 E.2.1 dX12_turnOfHouse_81 rfl (lv_at hl57 0 rfl) ?_
      refine x_iald (pc := 82) (f := (mf 28)) E hw50 15 rfl (inbE (a := r_47.toInt) rfl (by omega)) dX12_turnOfHouse_82 ?_
      refine lv_topi (fun v_59 ev_59 => ?_)
      refine lv_aload_n (pc := 83) E.1 E.2.1 dX12_turnOfHouse_83 rfl (lv_at hl57 2 rfl) ?_
      refine x_get (pc := 84) (T := TX12) (N := 70) (ci := 12) (v := .ref (mr 29)) E hw50 inX12 0 29 q_1428 rfl rfl (by decide) rfl rfl dX12_turnOfHouse_84 ?_
      refine lv_iload_n (pc := 87) E.1 E.2.1 dX12_turnOfHouse_87 rfl (lv_at hl57 0 rfl) ?_
      refine x_iald (pc := 88) (f := (mf 29)) E hw50 16 rfl (inbE (a := r_47.toInt) rfl (by omega)) dX12_turnOfHouse_88 ?_
      refine lv_topi (fun v_60 ev_60 => ?_)
      have hlw_61 := LW_at lf_law0 (l := r_47) (by omega)
      have hlw_61a : 0 ≤ v_59.toInt ∧ v_59.toInt ≤ v_60.toInt ∧ v_60.toInt ≤ 400 := by rw [ev_59, ev_60]; omega
      refine cm_i (pc := 89) hw50 (rn_M (As := [.int 0, .int v_59, .int v_60]) (rest := []) E hw50 (s_runs0 l D cI cJ _ M mr mi (va_up (va_up mf 53 g_44) 54 gstack_49) mg v_59 v_60 (by show 0 ≤ v_59.toInt; omega) (by show v_59.toInt ≤ v_60.toInt; omega) (by show v_60.toInt ≤ 400; omega) (show DP (mf 31) (mf 32) (0 + v_59.toInt.toNat) (0 + v_60.toInt.toNat) 1 from (by rw [ev_59, ev_60]; exact hlw_61.2.1))) (gdV q_1883 q_1885 q_103 q_162 q_1886) hdV_X12_runs ⟨rfl, rfl⟩ ⟨(Nat.le_of_ble_eq_true rfl), (Nat.le_of_ble_eq_true rfl)⟩ ⟨(Nat.le_of_ble_eq_true rfl), (Nat.le_of_ble_eq_true rfl)⟩ 12 rfl rfl rfl rfl hl57.1 rfl (Nat.le_of_ble_eq_true rfl) dX12_turnOfHouse_89) (fun r_63 u_62 H1 locs hp hw64 => ?_)
      obtain ⟨gstack_65, rfl⟩ : ∃ z, z = u_62 := ⟨_, rfl⟩
      generalize H1 = H at hw64 ⊢
      have hw66 : WD D A s.heap (MW cI cJ M mr mi (va_up (va_up mf 53 g_44) 54 gstack_65) mg) H locs := hw64
      exact em_i (w1 := (fun (u : (Nat → Int32) × (Nat → Int32)) => (MW cI cJ M mr mi (va_up (va_up mf 53 u.1) 54 u.2) mg))) E hr hlk (g_44, gstack_65) hw66 trivial (Nat.le_of_ble_eq_true rfl) (Nat.le_of_ble_eq_true rfl) dX12_turnOfHouse_92

set_option maxHeartbeats 4000000 in
set_option maxRecDepth 100000 in
theorem s_burnOf (l : Launch) (D : va_G) (cI cJ : ClassId) (sz M : Nat) (mr : Nat → Nat) (mi : Nat → Int32) (mf : Nat → Nat → Int32) (mg : Nat → Nat → Int64) (z_h : Int32) (h0 : 0 ≤ z_h.toInt ∧ z_h.toInt ≤ 9) (h1 : 0 ≤ (mi 44).toInt ∧ (mi 44).toInt ≤ 10) (h2 : 0 ≤ ((mf 27) 0).toInt) (h3 : ((mf 27) 0).toInt ≤ 16) (h4 : 0 ≤ ((mf 27) 1).toInt) (h5 : ((mf 27) 1).toInt ≤ 16) (lf_law1 : LW 16 400 (mf 31) (mf 32) (mf 28) (mf 29) (mf 30) ((mf 27) 1).toInt 400) : Met l yX12_burnOf (Cond.code yX12_burnOf cX12_burnOf 3 (some .int) :: GW) ({ frames := 5, cells := 0, slots := 0, locals := 128 } : Room) (va_Pc [.ref M, .int z_h] (PW D cI cJ sz (MW cI cJ M mr mi mf mg) xT)) (va_Qi (fun (r : Int32) (u : (Nat → Int32) × (Nat → Int32)) => (0 ≤ r.toInt) ∧ (r.toInt ≤ 99)) (fun u => QW D cI cJ (va_A (MW cI cJ M mr mi mf mg) sz) ((fun (u : (Nat → Int32) × (Nat → Int32)) => (MW cI cJ M mr mi (va_up (va_up mf 53 u.1) 54 u.2) mg)) u)) (va_A (MW cI cJ M mr mi mf mg) sz)) 0 0 (va_A (MW cI cJ M mr mi mf mg) sz) := by
  refine mk_met (y := yX12_burnOf) (bytes := cX12_burnOf) (maxL := 3) (avs := [.ref M, .int z_h]) (WS := (MW cI cJ M mr mi mf mg)) (Qf := fun A => va_Qi (fun (r : Int32) (u : (Nat → Int32) × (Nat → Int32)) => (0 ≤ r.toInt) ∧ (r.toInt ≤ 99)) (fun u => QW D cI cJ A ((fun (u : (Nat → Int32) × (Nat → Int32)) => (MW cI cJ M mr mi (va_up (va_up mf 53 u.1) 54 u.2) mg)) u)) A) (by decide) (Nat.le_of_ble_eq_true rfl) ?_
  intro p e s m below meth c A ls E hr hlk hnm hX hw1 hl2
  have hl3 : lv_has ls 3 [(0, .ref M), (1, .int z_h)] := hl2
  refine lv_aload_n (pc := 0) E.1 E.2.1 dX12_burnOf_0 rfl (lv_at hl3 0 rfl) ?_
  refine lv_iload_n (pc := 1) E.1 E.2.1 dX12_burnOf_1 rfl (lv_at hl3 1 rfl) ?_
  refine cm_v (pc := 2) hw1 (rn_M (As := [.int z_h]) (rest := []) E hw1 (s_asks l D cI cJ _ M mr mi mf mg z_h h0 h1) (gdV q_1859 q_1861 q_97 q_162 q_1862) hdV_X12_asks ⟨rfl, rfl⟩ ⟨(Nat.le_of_ble_eq_true rfl), (Nat.le_of_ble_eq_true rfl)⟩ ⟨(Nat.le_of_ble_eq_true rfl), (Nat.le_of_ble_eq_true rfl)⟩ 12 rfl rfl rfl rfl hl3.1 rfl (Nat.le_of_ble_eq_true rfl) dX12_burnOf_2) (fun u_4 H1 locs hp hw6 => ?_)
  obtain ⟨gasked_7, rfl⟩ : ∃ z, z = u_4 := ⟨_, rfl⟩
  generalize H1 = H at hw6 ⊢
  have hw8 : WD D A s.heap (MW cI cJ M mr mi (va_up mf 53 gasked_7) mg) H locs := hw6
  refine lv_aload_n (pc := 5) E.1 E.2.1 dX12_burnOf_5 rfl (lv_at hl3 0 rfl) ?_
  refine lv_iconst (pc := 6) (v := 1) E.1 E.2.1 dX12_burnOf_6 (by decide +kernel) ?_
  refine cm_i (pc := 7) hw8 (rn_M (As := [.int 1]) (rest := []) E hw8 (s_lineOf1 l D cI cJ _ M mr mi (va_up mf 53 gasked_7) mg h2 h3 h4 h5 (show LW 16 400 (mf 31) (mf 32) (mf 28) (mf 29) (mf 30) ((mf 27) 1).toInt 400 from lf_law1)) (gdV q_1879 q_1881 q_102 q_162 q_1882) hdV_X12_lineOf ⟨rfl, rfl⟩ ⟨(Nat.le_of_ble_eq_true rfl), (Nat.le_of_ble_eq_true rfl)⟩ ⟨(Nat.le_of_ble_eq_true rfl), (Nat.le_of_ble_eq_true rfl)⟩ 12 rfl rfl rfl rfl hl3.1 rfl (Nat.le_of_ble_eq_true rfl) dX12_burnOf_7) (fun r_10 u_9 H1 locs hp hw11 => ?_)
  obtain ⟨gstack_12, rfl⟩ : ∃ z, z = u_9 := ⟨_, rfl⟩
  generalize H1 = H at hw11 ⊢
  have hw13 : WD D A s.heap (MW cI cJ M mr mi (va_up (va_up mf 53 gasked_7) 54 gstack_12) mg) H locs := hw11
  have hp_14 := hp
  rcases hp_14 with rfl | ⟨ha_15, ha_16⟩
  · skip
    refine lv_istore_n (pc := 10) (lv' := [(2, .int (-1)), (0, .ref M), (1, .int z_h)]) E.1 E.2.1 dX12_burnOf_10 rfl hl3 (by decide) rfl (fun ls hl17 => ?_)
    refine lv_iload_n (pc := 11) E.1 E.2.1 dX12_burnOf_11 rfl (lv_at hl17 0 rfl) ?_
    refine lv_iconst (pc := 12) (v := (-1)) E.1 E.2.1 dX12_burnOf_12 (by decide +kernel) ?_
    refine lv_icmp_ne (pc := 13) (tgt := 20) E.1 E.2.1 dX12_burnOf_13 (by decide) (fun c_18 => absurd (meqE (a := (-1)) (b := (-1)) (by decide +kernel) (by decide +kernel) (by omega)) c_18) (fun _ => ?_)
    refine lv_iconst (pc := 16) (v := 1) E.1 E.2.1 dX12_burnOf_16 (by decide +kernel) ?_
    refine lv_goto (pc := 17) (tgt := 44) E.1 E.2.1 dX12_burnOf_17 (by decide) ?_
    exact em_i (w1 := (fun (u : (Nat → Int32) × (Nat → Int32)) => (MW cI cJ M mr mi (va_up (va_up mf 53 u.1) 54 u.2) mg))) E hr hlk (gasked_7, gstack_12) hw13 ⟨(by show 0 ≤ (1 : Int32).toInt; have k_0 : (1 : Int32).toInt = 1 := (by decide +kernel); omega), (by show (1 : Int32).toInt ≤ 99; have k_0 : (1 : Int32).toInt = 1 := (by decide +kernel); omega)⟩ (Nat.le_of_ble_eq_true rfl) (Nat.le_of_ble_eq_true rfl) dX12_burnOf_44
  · skip
    have ha_15 : 16 ≤ r_10.toInt := ha_15
    have ha_16 : r_10.toInt ≤ 15 + ((mf 27) 1).toInt := ha_16
    refine lv_istore_n (pc := 10) (lv' := [(2, .int r_10), (0, .ref M), (1, .int z_h)]) E.1 E.2.1 dX12_burnOf_10 rfl hl3 (by decide) rfl (fun ls hl19 => ?_)
    refine lv_iload_n (pc := 11) E.1 E.2.1 dX12_burnOf_11 rfl (lv_at hl19 0 rfl) ?_
    refine lv_iconst (pc := 12) (v := (-1)) E.1 E.2.1 dX12_burnOf_12 (by decide +kernel) ?_
    refine lv_icmp_ne (pc := 13) (tgt := 20) E.1 E.2.1 dX12_burnOf_13 (by decide) (fun _ => ?_) (fun c_20 => absurd c_20 (mneE (a := r_10.toInt) (b := (-1)) rfl (by decide +kernel) (by omega)))
    refine lv_aload_n (pc := 20) E.1 E.2.1 dX12_burnOf_20 rfl (lv_at hl19 1 rfl) ?_
    refine lv_aload_n (pc := 21) E.1 E.2.1 dX12_burnOf_21 rfl (lv_at hl19 1 rfl) ?_
    refine lv_iconst (pc := 22) (v := 1) E.1 E.2.1 dX12_burnOf_22 (by decide +kernel) ?_
    refine lv_aload_n (pc := 23) E.1 E.2.1 dX12_burnOf_23 rfl (lv_at hl19 1 rfl) ?_
    refine x_get (pc := 24) (T := TX12) (N := 70) (ci := 12) (v := .ref (mr 28)) E hw13 inX12 0 28 q_1427 rfl rfl (by decide) rfl rfl dX12_burnOf_24 ?_
    refine lv_iload_n (pc := 27) E.1 E.2.1 dX12_burnOf_27 rfl (lv_at hl19 0 rfl) ?_
    refine x_iald (pc := 28) (f := (mf 28)) E hw13 15 rfl (inbE (a := r_10.toInt) rfl (by omega)) dX12_burnOf_28 ?_
    refine lv_topi (fun v_21 ev_21 => ?_)
    refine lv_aload_n (pc := 29) E.1 E.2.1 dX12_burnOf_29 rfl (lv_at hl19 1 rfl) ?_
    refine x_get (pc := 30) (T := TX12) (N := 70) (ci := 12) (v := .ref (mr 29)) E hw13 inX12 0 29 q_1428 rfl rfl (by decide) rfl rfl dX12_burnOf_30 ?_
    refine lv_iload_n (pc := 33) E.1 E.2.1 dX12_burnOf_33 rfl (lv_at hl19 0 rfl) ?_
    refine x_iald (pc := 34) (f := (mf 29)) E hw13 16 rfl (inbE (a := r_10.toInt) rfl (by omega)) dX12_burnOf_34 ?_
    refine lv_topi (fun v_22 ev_22 => ?_)
    have hlw_23 := LW_at lf_law1 (l := r_10) (by omega)
    have hlw_23a : 0 ≤ v_21.toInt ∧ v_21.toInt ≤ v_22.toInt ∧ v_22.toInt ≤ 400 := by rw [ev_21, ev_22]; omega
    refine cm_i (pc := 35) hw13 (rn_M (As := [.int 1, .int v_21, .int v_22]) (rest := [.ref M]) E hw13 (s_runs1 l D cI cJ _ M mr mi (va_up (va_up mf 53 gasked_7) 54 gstack_12) mg v_21 v_22 (by show 0 ≤ v_21.toInt; omega) (by show v_21.toInt ≤ v_22.toInt; omega) (by show v_22.toInt ≤ 400; omega) (show DP (mf 31) (mf 32) (400 + v_21.toInt.toNat) (400 + v_22.toInt.toNat) 1 from (by rw [ev_21, ev_22]; exact hlw_23.2.1))) (gdV q_1883 q_1885 q_103 q_162 q_1886) hdV_X12_runs ⟨rfl, rfl⟩ ⟨(Nat.le_of_ble_eq_true rfl), (Nat.le_of_ble_eq_true rfl)⟩ ⟨(Nat.le_of_ble_eq_true rfl), (Nat.le_of_ble_eq_true rfl)⟩ 12 rfl rfl rfl rfl hl19.1 rfl (Nat.le_of_ble_eq_true rfl) dX12_burnOf_35) (fun r_25 u_24 H1 locs hp hw26 => ?_)
    obtain ⟨gstack_27, rfl⟩ : ∃ z, z = u_24 := ⟨_, rfl⟩
    generalize H1 = H at hw26 ⊢
    have hw28 : WD D A s.heap (MW cI cJ M mr mi (va_up (va_up mf 53 gasked_7) 54 gstack_27) mg) H locs := hw26
    refine lv_iconst (pc := 38) (v := 0) E.1 E.2.1 dX12_burnOf_38 (by decide +kernel) ?_
    refine lv_bipush (pc := 39) (v := 99) E.1 E.2.1 dX12_burnOf_39 (by decide +kernel) ?_
    refine cm_i (pc := 41) hw28 (rn_M (As := [.int r_25, .int 0, .int 99]) (rest := []) E hw28 (s_held l D cI cJ _ M mr mi (va_up (va_up mf 53 gasked_7) 54 gstack_27) mg r_25 0 99 (by show (0 : Int32).toInt ≤ (99 : Int32).toInt; have k_0 : (0 : Int32).toInt = 0 := (by decide +kernel); have k_1 : (99 : Int32).toInt = 99 := (by decide +kernel); omega)) (gdV q_1895 q_1897 q_106 q_162 q_1898) hdV_X12_held ⟨rfl, rfl⟩ ⟨(Nat.le_of_ble_eq_true rfl), (Nat.le_of_ble_eq_true rfl)⟩ ⟨(Nat.le_of_ble_eq_true rfl), (Nat.le_of_ble_eq_true rfl)⟩ 12 rfl rfl rfl rfl hl19.1 rfl (Nat.le_of_ble_eq_true rfl) dX12_burnOf_41) (fun r_30 u_29 H1 locs hp hw31 => ?_)
    generalize H1 = H at hw31 ⊢
    have hw32 : WD D A s.heap (MW cI cJ M mr mi (va_up (va_up mf 53 gasked_7) 54 gstack_27) mg) H locs := hw31
    have hp_33 := hp
    have hp_33 : (0 : Int32).toInt ≤ r_30.toInt ∧ r_30.toInt ≤ (99 : Int32).toInt := hp_33
    rw [show (0 : Int32).toInt = 0 from by decide +kernel] at hp_33
    rw [show (99 : Int32).toInt = 99 from by decide +kernel] at hp_33
    exact em_i (w1 := (fun (u : (Nat → Int32) × (Nat → Int32)) => (MW cI cJ M mr mi (va_up (va_up mf 53 u.1) 54 u.2) mg))) E hr hlk (gasked_7, gstack_27) hw32 ⟨(by show 0 ≤ r_30.toInt; omega), (by show r_30.toInt ≤ 99; omega)⟩ (Nat.le_of_ble_eq_true rfl) (Nat.le_of_ble_eq_true rfl) dX12_burnOf_44
