set_option maxHeartbeats 4000000 in
set_option maxRecDepth 100000 in
theorem s_laysRound (l : Launch) (D : va_G) (cI cJ : ClassId) (sz M : Nat) (mr : Nat → Nat) (mi : Nat → Int32) (mf : Nat → Nat → Int32) (mg : Nat → Nat → Int64)  (h0 : 0 ≤ (mi 6).toInt ∧ (mi 6).toInt ≤ 10) (h1 : 0 ≤ (mi 48).toInt ∧ (mi 48).toInt ≤ 140) (h2 : (mi 49).toInt ≤ 200) (lf_round : rndOK (mi 49).toInt (mi 6).toInt (mf 50)) (x_rs : (∃ t : Nat, RSP (mf 46) (mf 47) (mi 6).toInt (((mi 48).toInt).toNat) t)) : Met l yX12_laysRound (Cond.code yX12_laysRound cX12_laysRound 6 (some .int) :: GW) ({ frames := 2, cells := 0, slots := 0, locals := 61 } : Room) (va_Pc [.ref M] (PW D cI cJ sz (MW cI cJ M mr mi mf mg) xT)) (va_Qi (fun (r : Int32) (u : (Nat → Int32) × (Nat → Int32) × (Nat → Int32) × Int32 × Int32) => (rndOK (mi 49).toInt (mi 6).toInt u.2.2.1) ∧ ((0 ≤ (r : Int32).toInt → rnd2 u.2.2.1 (r : Int32).toInt (mi 6).toInt)) ∧ ((r = (-1)) ∨ (0 ≤ r.toInt ∧ r.toInt ≤ 200))) (fun u => QW D cI cJ (va_A (MW cI cJ M mr mi mf mg) sz) ((fun (u : (Nat → Int32) × (Nat → Int32) × (Nat → Int32) × Int32 × Int32) => (MW cI cJ M mr (upd (upd mi 38 u.2.2.2.1) 39 u.2.2.2.2) (va_up (va_up (va_up mf 51 u.1) 52 u.2.1) 50 u.2.2.1) mg)) u)) (va_A (MW cI cJ M mr mi mf mg) sz)) 0 0 (va_A (MW cI cJ M mr mi mf mg) sz) := by
  refine mk_met (y := yX12_laysRound) (bytes := cX12_laysRound) (maxL := 6) (avs := [.ref M]) (WS := (MW cI cJ M mr mi mf mg)) (Qf := fun A => va_Qi (fun (r : Int32) (u : (Nat → Int32) × (Nat → Int32) × (Nat → Int32) × Int32 × Int32) => (rndOK (mi 49).toInt (mi 6).toInt u.2.2.1) ∧ ((0 ≤ (r : Int32).toInt → rnd2 u.2.2.1 (r : Int32).toInt (mi 6).toInt)) ∧ ((r = (-1)) ∨ (0 ≤ r.toInt ∧ r.toInt ≤ 200))) (fun u => QW D cI cJ A ((fun (u : (Nat → Int32) × (Nat → Int32) × (Nat → Int32) × Int32 × Int32) => (MW cI cJ M mr (upd (upd mi 38 u.2.2.2.1) 39 u.2.2.2.2) (va_up (va_up (va_up mf 51 u.1) 52 u.2.1) 50 u.2.2.1) mg)) u)) A) (by decide) (Nat.le_of_ble_eq_true rfl) ?_
  intro p e s m below meth c A ls E hr hlk hnm hX hw1 hl2
  have hl3 : lv_has ls 6 [(0, .ref M)] := hl2
  obtain ⟨htt, hd, hd0, hd1, hd2⟩ := x_rs
  refine lv_iconst (pc := 0) (v := 0) E.1 E.2.1 dX12_laysRound_0 (by decide +kernel) ?_
  refine lv_istore_n (pc := 1) (lv' := [(1, .int 0), (0, .ref M)]) E.1 E.2.1 dX12_laysRound_1 rfl hl3 (by decide) rfl (fun ls hl4 => ?_)
  refine lv_iconst (pc := 2) (v := 0) E.1 E.2.1 dX12_laysRound_2 (by decide +kernel) ?_
  refine lv_istore_n (pc := 3) (lv' := [(2, .int 0), (1, .int 0), (0, .ref M)]) E.1 E.2.1 dX12_laysRound_3 rfl hl4 (by decide) rfl (fun ls hl5 => ?_)
  refine lv_iconst (pc := 4) (v := 0) E.1 E.2.1 dX12_laysRound_4 (by decide +kernel) ?_
  refine lv_istore_n (pc := 5) (lv' := [(3, .int 0), (2, .int 0), (1, .int 0), (0, .ref M)]) E.1 E.2.1 dX12_laysRound_5 rfl hl5 (by decide) rfl (fun ls hl6 => ?_)
  have loop_7 : ∀ (k : Nat) (x_8 : Int32) (x_9 : Int32) (x_10 : Int32) (g_11 : Nat → Int32) (g_12 : Nat → Int32) (g_13 : Nat → Int32) (H : Heap) (locs : List Loc) (ls : Array Slot), (0 ≤ x_8.toInt) ∧ (x_8.toInt ≤ 200) ∧ (0 ≤ x_9.toInt) ∧ (x_9.toInt ≤ 4) ∧ (0 ≤ x_10.toInt) ∧ (x_10.toInt ≤ (mi 48).toInt) ∧ (LZ hd x_9.toInt x_10.toInt g_11 g_12) ∧ (rnd2 g_13 (x_8.toInt) (mi 6).toInt) ∧ (∀ j : Nat, j < 200 → g_13 j = (mf 50) j) → lexM (mi 48).toInt x_9.toInt x_10.toInt g_11 g_12 < (k : Int) → WD D A s.heap (MW cI cJ M mr mi (va_up (va_up (va_up mf 50 g_13) 51 g_11) 52 g_12) mg) H locs → lv_has ls 6 [(3, .int x_10), (2, .int x_9), (1, .int x_8), (0, .ref M)] → W p l e ({ frames := 2, cells := 0, slots := 0, locals := 61 } : Room) s m ([.ref M] : List Value).toArray below meth c H locs 0 0 (MQ below (va_Qi (fun (r : Int32) (u : (Nat → Int32) × (Nat → Int32) × (Nat → Int32) × Int32 × Int32) => (rndOK (mi 49).toInt (mi 6).toInt u.2.2.1) ∧ ((0 ≤ (r : Int32).toInt → rnd2 u.2.2.1 (r : Int32).toInt (mi 6).toInt)) ∧ ((r = (-1)) ∨ (0 ≤ r.toInt ∧ r.toInt ≤ 200))) (fun u => QW D cI cJ A ((fun (u : (Nat → Int32) × (Nat → Int32) × (Nat → Int32) × Int32 × Int32) => (MW cI cJ M mr (upd (upd mi 38 u.2.2.2.1) 39 u.2.2.2.2) (va_up (va_up (va_up mf 51 u.1) 52 u.2.1) 50 u.2.2.1) mg)) u)) A) ([.ref M] : List Value).toArray s 0 0 A) (F0 m 6 ls []) := by
    intro k
    induction k with
    | zero =>
      intro x_8 x_9 x_10 g_11 g_12 g_13 _ _ _ hinv hm
      obtain ⟨hi_13_0, hi_13_1, hi_13_2, hi_13_3, hi_13_4, hi_13_5, hi_13_6, hi_13_7, hi_13_8⟩ := hinv
      exact absurd hm (by have q : 0 ≤ lexM (mi 48).toInt x_9.toInt x_10.toInt g_11 g_12 := lex_nn hi_13_6 (by omega) (by omega); omega)
    | succ k ih_14 =>
      intro x_8 x_9 x_10 g_11 g_12 g_13 H locs ls hinv hm hw15 hl16
      obtain ⟨hi_13_0, hi_13_1, hi_13_2, hi_13_3, hi_13_4, hi_13_5, hi_13_6, hi_13_7, hi_13_8⟩ := hinv
      refine lv_iload_n (pc := 6) E.1 E.2.1 dX12_laysRound_6 rfl (lv_at hl16 0 rfl) ?_
      refine lv_aload_n (pc := 7) E.1 E.2.1 dX12_laysRound_7 rfl (lv_at hl16 3 rfl) ?_
      refine x_get (pc := 8) (T := TX12) (N := 70) (ci := 12) (v := .int (mi 48)) E hw15 inX12 0 48 q_1447 rfl rfl (by decide) rfl rfl dX12_laysRound_8 ?_
      refine lv_icmp_ge (pc := 11) (tgt := 204) E.1 E.2.1 dX12_laysRound_11 (by decide) (fun c_17 => ?_) (fun c_17 => ?_)
      · skip
        have hc_17 := leE (a := (mi 48).toInt) (b := x_10.toInt) rfl rfl c_17
        refine lv_iload_n (pc := 204) E.1 E.2.1 dX12_laysRound_204 rfl (lv_at hl16 2 rfl) ?_
        exact em_i (w1 := (fun (u : (Nat → Int32) × (Nat → Int32) × (Nat → Int32) × Int32 × Int32) => (MW cI cJ M mr (upd (upd mi 38 u.2.2.2.1) 39 u.2.2.2.2) (va_up (va_up (va_up mf 51 u.1) 52 u.2.1) 50 u.2.2.1) mg))) E hr hlk (g_11, g_12, g_13, (mi 38), (mi 39)) hw15 ⟨(show rndOK (mi 49).toInt (mi 6).toInt g_13 from (rndOK_same lf_round hi_13_8 (by omega))), (show (0 ≤ (x_8 : Int32).toInt → rnd2 g_13 (x_8 : Int32).toInt (mi 6).toInt) from (fun _ => hi_13_7)), (Or.inr (⟨hi_13_0, hi_13_1⟩))⟩ (Nat.le_of_ble_eq_true rfl) (Nat.le_of_ble_eq_true rfl) dX12_laysRound_205
      · skip
        have hc_17 := nleE (a := (mi 48).toInt) (b := x_10.toInt) rfl rfl c_17
        have hk9 := idxI (x := x_10) (by omega)
        have hsp := hd2 x_10.toNatClampNeg (by omega)
        refine lv_aload_n (pc := 14) E.1 E.2.1 dX12_laysRound_14 rfl (lv_at hl16 3 rfl) ?_
        refine x_get (pc := 15) (T := TX12) (N := 70) (ci := 12) (v := .ref (mr 46)) E hw15 inX12 0 46 q_1445 rfl rfl (by decide) rfl rfl dX12_laysRound_15 ?_
        refine lv_iload_n (pc := 18) E.1 E.2.1 dX12_laysRound_18 rfl (lv_at hl16 0 rfl) ?_
        refine x_iald (pc := 19) (f := (mf 46)) E hw15 23 rfl (inbE (a := x_10.toInt) rfl (by omega)) dX12_laysRound_19 ?_
        refine lv_topi (fun v_18 ev_18 => ?_)
        refine lv_iconst (pc := 20) (v := 2) E.1 E.2.1 dX12_laysRound_20 (by decide +kernel) ?_
        refine lv_icmp_ne (pc := 21) (tgt := 50) E.1 E.2.1 dX12_laysRound_21 (by decide) (fun c_19 => ?_) (fun c_19 => ?_)
        · skip
          have hc_19 := neE (a := v_18.toInt) (b := 2) rfl (by decide +kernel) c_19
          refine lv_aload_n (pc := 50) E.1 E.2.1 dX12_laysRound_50 rfl (lv_at hl16 3 rfl) ?_
          refine x_get (pc := 51) (T := TX12) (N := 70) (ci := 12) (v := .ref (mr 46)) E hw15 inX12 0 46 q_1445 rfl rfl (by decide) rfl rfl dX12_laysRound_51 ?_
          refine lv_iload_n (pc := 54) E.1 E.2.1 dX12_laysRound_54 rfl (lv_at hl16 0 rfl) ?_
          refine x_iald (pc := 55) (f := (mf 46)) E hw15 23 rfl (inbE (a := x_10.toInt) rfl (by omega)) dX12_laysRound_55 ?_
          refine lv_topi (fun v_20 ev_20 => ?_)
          have hsv_20 : v_20.toInt = v_18.toInt := by rw [ev_20, ev_18]
          refine lv_iconst (pc := 56) (v := 3) E.1 E.2.1 dX12_laysRound_56 (by decide +kernel) ?_
          refine lv_icmp_ne (pc := 57) (tgt := 108) E.1 E.2.1 dX12_laysRound_57 (by decide) (fun c_21 => ?_) (fun c_21 => ?_)
          · skip
            have hc_21 := neE (a := v_20.toInt) (b := 3) rfl (by decide +kernel) c_21
            have hsg := SP_go hsp (nE ev_20 (by have k1 : (2 : Int32).toInt = 2 := (by decide +kernel); omega)) (nE ev_20 (by have k1 : (3 : Int32).toInt = 3 := (by decide +kernel); omega))
            refine lv_aload_n (pc := 108) E.1 E.2.1 dX12_laysRound_108 rfl (lv_at hl16 3 rfl) ?_
            refine x_get (pc := 109) (T := TX12) (N := 70) (ci := 12) (v := .ref (mr 46)) E hw15 inX12 0 46 q_1445 rfl rfl (by decide) rfl rfl dX12_laysRound_109 ?_
            refine lv_iload_n (pc := 112) E.1 E.2.1 dX12_laysRound_112 rfl (lv_at hl16 0 rfl) ?_
            refine x_iald (pc := 113) (f := (mf 46)) E hw15 23 rfl (inbE (a := x_10.toInt) rfl (by omega)) dX12_laysRound_113 ?_
            refine lv_topi (fun v_22 ev_22 => ?_)
            have hsv_22 : v_22.toInt = v_20.toInt := by rw [ev_22, ev_20]
            refine lv_if_ne (pc := 114) (tgt := 121) E.1 E.2.1 dX12_laysRound_114 (by decide) (fun c_23 => ?_) (fun c_23 => ?_)
            · skip
              have hc_23 := neE (a := v_22.toInt) (b := 0) rfl (by decide +kernel) c_23
              refine lv_aload_n (pc := 121) E.1 E.2.1 dX12_laysRound_121 rfl (lv_at hl16 3 rfl) ?_
              refine x_get (pc := 122) (T := TX12) (N := 70) (ci := 12) (v := .ref (mr 47)) E hw15 inX12 0 47 q_1446 rfl rfl (by decide) rfl rfl dX12_laysRound_122 ?_
              refine lv_iload_n (pc := 125) E.1 E.2.1 dX12_laysRound_125 rfl (lv_at hl16 0 rfl) ?_
              refine x_iald (pc := 126) (f := (mf 47)) E hw15 24 rfl (inbE (a := x_10.toInt) rfl (by omega)) dX12_laysRound_126 ?_
              refine lv_topi (fun v_24 ev_24 => ?_)
              have hsm : 1 ≤ v_24.toInt ∧ v_24.toInt ≤ 60 := by rw [ev_24]; exact hsg.2.2 (nE ev_22 (by have k1 : (0 : Int32).toInt = 0 := (by decide +kernel); omega))
              refine lv_istore (pc := 127) (lv' := [(4, .int v_24), (3, .int x_10), (2, .int x_9), (1, .int x_8), (0, .ref M)]) E.1 E.2.1 dX12_laysRound_127 hl16 (by decide) rfl (fun ls hl25 => ?_)
              refine lv_iload_n (pc := 129) E.1 E.2.1 dX12_laysRound_129 rfl (lv_at hl25 3 rfl) ?_
              refine lv_iload (pc := 130) E.1 E.2.1 dX12_laysRound_130 (lv_at hl25 0 rfl) ?_
              refine lv_iadd (pc := 132) E.1 E.2.1 dX12_laysRound_132 ?_
              refine lv_topi (fun v_26 ev_26 => ?_)
              have hv_26 : v_26.toInt = x_8.toInt + v_24.toInt := by rw [ev_26]; exact addE rfl rfl (by omega)
              refine lv_sipush (pc := 133) (v := 200) E.1 E.2.1 dX12_laysRound_133 (by decide +kernel) ?_
              refine lv_icmp_le (pc := 136) (tgt := 145) E.1 E.2.1 dX12_laysRound_136 (by decide) (fun c_27 => ?_) (fun c_27 => ?_)
              · skip
                have hc_27 := leE (a := v_26.toInt) (b := 200) rfl (by decide +kernel) c_27
                refine lv_iconst (pc := 145) (v := 0) E.1 E.2.1 dX12_laysRound_145 (by decide +kernel) ?_
                refine lv_istore (pc := 146) (lv' := [(5, .int 0), (4, .int v_24), (3, .int x_10), (2, .int x_9), (1, .int x_8), (0, .ref M)]) E.1 E.2.1 dX12_laysRound_146 hl25 (by decide) rfl (fun ls hl28 => ?_)
                have loop_29 : ∀ (k : Nat) (x_30 : Int32) (g_31 : Nat → Int32) (H : Heap) (locs : List Loc) (ls : Array Slot), (0 ≤ x_30.toInt) ∧ (x_30.toInt ≤ v_24.toInt) ∧ (rnd2 g_31 (x_8.toInt + x_30.toInt) (mi 6).toInt) ∧ (∀ j : Nat, j < 200 → g_31 j = (mf 50) j) → v_24.toInt - x_30.toInt < (k : Int) → WD D A s.heap (MW cI cJ M mr mi (va_up (va_up (va_up mf 50 g_31) 51 g_11) 52 g_12) mg) H locs → lv_has ls 6 [(5, .int x_30), (4, .int v_24), (3, .int x_10), (2, .int x_9), (1, .int x_8), (0, .ref M)] → W p l e ({ frames := 2, cells := 0, slots := 0, locals := 61 } : Room) s m ([.ref M] : List Value).toArray below meth c H locs 0 0 (MQ below (va_Qi (fun (r : Int32) (u : (Nat → Int32) × (Nat → Int32) × (Nat → Int32) × Int32 × Int32) => (rndOK (mi 49).toInt (mi 6).toInt u.2.2.1) ∧ ((0 ≤ (r : Int32).toInt → rnd2 u.2.2.1 (r : Int32).toInt (mi 6).toInt)) ∧ ((r = (-1)) ∨ (0 ≤ r.toInt ∧ r.toInt ≤ 200))) (fun u => QW D cI cJ A ((fun (u : (Nat → Int32) × (Nat → Int32) × (Nat → Int32) × Int32 × Int32) => (MW cI cJ M mr (upd (upd mi 38 u.2.2.2.1) 39 u.2.2.2.2) (va_up (va_up (va_up mf 51 u.1) 52 u.2.1) 50 u.2.2.1) mg)) u)) A) ([.ref M] : List Value).toArray s 0 0 A) (F0 m 148 ls []) := by
                  intro k
                  induction k with
                  | zero =>
                    intro x_30 g_31 _ _ _ hinv hm
                    obtain ⟨hi_31_0, hi_31_1, hi_31_2, hi_31_3⟩ := hinv
                    exact absurd hm (by omega)
                  | succ k ih_32 =>
                    intro x_30 g_31 H locs ls hinv hm hw33 hl34
                    obtain ⟨hi_31_0, hi_31_1, hi_31_2, hi_31_3⟩ := hinv
                    refine lv_iload (pc := 148) E.1 E.2.1 dX12_laysRound_148 (lv_at hl34 0 rfl) ?_
                    refine lv_iload (pc := 150) E.1 E.2.1 dX12_laysRound_150 (lv_at hl34 1 rfl) ?_
                    refine lv_icmp_ge (pc := 152) (tgt := 193) E.1 E.2.1 dX12_laysRound_152 (by decide) (fun c_35 => ?_) (fun c_35 => ?_)
                    · skip
                      have hc_35 := leE (a := v_24.toInt) (b := x_30.toInt) rfl rfl c_35
                      refine lv_iload_n (pc := 193) E.1 E.2.1 dX12_laysRound_193 rfl (lv_at hl34 4 rfl) ?_
                      refine lv_iload (pc := 194) E.1 E.2.1 dX12_laysRound_194 (lv_at hl34 1 rfl) ?_
                      refine lv_iadd (pc := 196) E.1 E.2.1 dX12_laysRound_196 ?_
                      refine lv_topi (fun v_36 ev_36 => ?_)
                      have hv_36 : v_36.toInt = x_8.toInt + v_24.toInt := by rw [ev_36]; exact addE rfl rfl (by omega)
                      refine lv_istore_n (pc := 197) (lv' := [(1, .int v_36), (5, .int x_30), (4, .int v_24), (3, .int x_10), (2, .int x_9), (0, .ref M)]) E.1 E.2.1 dX12_laysRound_197 rfl hl34 (by decide) rfl (fun ls hl37 => ?_)
                      obtain ⟨v_38, ev_38⟩ : ∃ z : Int32, x_10 + Int32.ofInt (1) = z := ⟨_, rfl⟩
                      have hv_38 : v_38.toInt = x_10.toInt + (1) := by rw [← ev_38]; exact incE rfl (by decide) (by omega)
                      refine lv_iinc (pc := 198) (v := v_38) (lv' := [(3, .int v_38), (1, .int v_36), (5, .int x_30), (4, .int v_24), (2, .int x_9), (0, .ref M)]) E.1 E.2.1 dX12_laysRound_198 hl37 (k := 3) rfl ev_38 (by decide) rfl (fun ls hl39 => ?_)
                      refine lv_goto (pc := 201) (tgt := 6) E.1 E.2.1 dX12_laysRound_201 (by decide) ?_
                      exact ih_14 v_36 x_9 v_38 g_11 g_12 g_31 _ _ _ ⟨(by show 0 ≤ v_36.toInt; omega), (by show v_36.toInt ≤ 200; omega), hi_13_2, hi_13_3, (by show 0 ≤ v_38.toInt; omega), (by show v_38.toInt ≤ (mi 48).toInt; omega), (LZ_fwd hi_13_6 (by omega) (by omega) (hsg.1)), (by rw [show v_36.toInt = x_8.toInt + x_30.toInt from by omega]; exact hi_31_2), hi_31_3⟩ (by have q : lexM (mi 48).toInt x_9.toInt v_38.toInt g_11 g_12 < lexM (mi 48).toInt x_9.toInt x_10.toInt g_11 g_12 := lex_fwd (by omega) (by omega); omega) hw33 (lv_sub hl39 [0, 4, 1, 5] rfl)
                    · skip
                      have hc_35 := nleE (a := v_24.toInt) (b := x_30.toInt) rfl rfl c_35
                      refine lv_aload_n (pc := 155) E.1 E.2.1 dX12_laysRound_155 rfl (lv_at hl34 5 rfl) ?_
                      refine x_get (pc := 156) (T := TX12) (N := 70) (ci := 12) (v := .ref (mr 50)) E hw33 inX12 0 50 q_1449 rfl rfl (by decide) rfl rfl dX12_laysRound_156 ?_
                      refine lv_sipush (pc := 159) (v := 200) E.1 E.2.1 dX12_laysRound_159 (by decide +kernel) ?_
                      refine lv_iload_n (pc := 162) E.1 E.2.1 dX12_laysRound_162 rfl (lv_at hl34 4 rfl) ?_
                      refine lv_iadd (pc := 163) E.1 E.2.1 dX12_laysRound_163 ?_
                      refine lv_topi (fun v_40 ev_40 => ?_)
                      have hv_40 : v_40.toInt = 200 + x_8.toInt := by rw [ev_40]; exact addE (by decide +kernel) rfl (by omega)
                      refine lv_iload (pc := 164) E.1 E.2.1 dX12_laysRound_164 (lv_at hl34 0 rfl) ?_
                      refine lv_iadd (pc := 166) E.1 E.2.1 dX12_laysRound_166 ?_
                      refine lv_topi (fun v_41 ev_41 => ?_)
                      have hv_41 : v_41.toInt = v_40.toInt + x_30.toInt := by rw [ev_41]; exact addE rfl rfl (by omega)
                      refine lv_aload_n (pc := 167) E.1 E.2.1 dX12_laysRound_167 rfl (lv_at hl34 5 rfl) ?_
                      refine x_get (pc := 168) (T := TX12) (N := 70) (ci := 12) (v := .ref (mr 46)) E hw33 inX12 0 46 q_1445 rfl rfl (by decide) rfl rfl dX12_laysRound_168 ?_
                      refine lv_iload_n (pc := 171) E.1 E.2.1 dX12_laysRound_171 rfl (lv_at hl34 2 rfl) ?_
                      refine x_iald (pc := 172) (f := (mf 46)) E hw33 23 rfl (inbE (a := x_10.toInt) rfl (by omega)) dX12_laysRound_172 ?_
                      refine lv_topi (fun v_42 ev_42 => ?_)
                      have hsv_42 : v_42.toInt = v_22.toInt := by rw [ev_42, ev_22]
                      refine lv_if_ne (pc := 173) (tgt := 185) E.1 E.2.1 dX12_laysRound_173 (by decide) (fun c_43 => ?_) (fun c_43 => ?_)
                      · skip
                        have hc_43 := neE (a := v_42.toInt) (b := 0) rfl (by decide +kernel) c_43
                        refine lv_iconst (pc := 185) (v := (-1)) E.1 E.2.1 dX12_laysRound_185 (by decide +kernel) ?_
                        refine x_iastG (pc := 186) (f := g_31) (wf := fun g => (MW cI cJ M mr mi (va_up (va_up (va_up mf 50 g) 51 g_11) 52 g_12) mg)) E hw33 25 rfl (inbE (a := v_41.toInt) rfl (by omega)) (fun _ => rfl) dX12_laysRound_186 (fun g_44 H locs eg_44 hw45 => ?_)
                        obtain ⟨v_46, ev_46⟩ : ∃ z : Int32, x_30 + Int32.ofInt (1) = z := ⟨_, rfl⟩
                        have hv_46 : v_46.toInt = x_30.toInt + (1) := by rw [← ev_46]; exact incE rfl (by decide) (by omega)
                        refine lv_iinc (pc := 187) (v := v_46) (lv' := [(5, .int v_46), (4, .int v_24), (3, .int x_10), (2, .int x_9), (1, .int x_8), (0, .ref M)]) E.1 E.2.1 dX12_laysRound_187 hl34 (k := 0) rfl ev_46 (by decide) rfl (fun ls hl47 => ?_)
                        refine lv_goto (pc := 190) (tgt := 148) E.1 E.2.1 dX12_laysRound_190 (by decide) ?_
                        exact ih_32 v_46 g_44 _ _ _ ⟨(by show 0 ≤ v_46.toInt; omega), (by show v_46.toInt ≤ v_24.toInt; omega), (rnd2_step hi_31_2 eg_44 (by omega) (by omega) (by have k9 : ((-1) : Int32).toInt = -1 := (by decide +kernel); omega) (by omega)), (rk_step hi_31_3 eg_44 (by omega))⟩ (by omega) hw45 (lv_sub hl47 [0, 1, 2, 3, 4, 5] rfl)
                      · skip
                        have hc_43 := eqE (a := v_42.toInt) (b := 0) rfl (by decide +kernel) c_43
                        refine lv_aload_n (pc := 176) E.1 E.2.1 dX12_laysRound_176 rfl (lv_at hl34 5 rfl) ?_
                        refine x_get (pc := 177) (T := TX12) (N := 70) (ci := 12) (v := .ref (mr 47)) E hw33 inX12 0 47 q_1446 rfl rfl (by decide) rfl rfl dX12_laysRound_177 ?_
                        refine lv_iload_n (pc := 180) E.1 E.2.1 dX12_laysRound_180 rfl (lv_at hl34 2 rfl) ?_
                        refine x_iald (pc := 181) (f := (mf 47)) E hw33 24 rfl (inbE (a := x_10.toInt) rfl (by omega)) dX12_laysRound_181 ?_
                        refine lv_topi (fun v_48 ev_48 => ?_)
                        have hsv_48 : v_48.toInt = v_24.toInt := by rw [ev_48, ev_24]
                        have hsw : 0 ≤ v_48.toInt ∧ v_48.toInt < (mi 6).toInt := by rw [ev_48]; exact hsg.2.1 (cE ev_42 (by have k1 : (0 : Int32).toInt = 0 := (by decide +kernel); omega))
                        refine lv_goto (pc := 182) (tgt := 186) E.1 E.2.1 dX12_laysRound_182 (by decide) ?_
                        refine x_iastG (pc := 186) (f := g_31) (wf := fun g => (MW cI cJ M mr mi (va_up (va_up (va_up mf 50 g) 51 g_11) 52 g_12) mg)) E hw33 25 rfl (inbE (a := v_41.toInt) rfl (by omega)) (fun _ => rfl) dX12_laysRound_186 (fun g_49 H locs eg_49 hw50 => ?_)
                        obtain ⟨v_51, ev_51⟩ : ∃ z : Int32, x_30 + Int32.ofInt (1) = z := ⟨_, rfl⟩
                        have hv_51 : v_51.toInt = x_30.toInt + (1) := by rw [← ev_51]; exact incE rfl (by decide) (by omega)
                        refine lv_iinc (pc := 187) (v := v_51) (lv' := [(5, .int v_51), (4, .int v_24), (3, .int x_10), (2, .int x_9), (1, .int x_8), (0, .ref M)]) E.1 E.2.1 dX12_laysRound_187 hl34 (k := 0) rfl ev_51 (by decide) rfl (fun ls hl52 => ?_)
                        refine lv_goto (pc := 190) (tgt := 148) E.1 E.2.1 dX12_laysRound_190 (by decide) ?_
                        exact ih_32 v_51 g_49 _ _ _ ⟨(by show 0 ≤ v_51.toInt; omega), (by show v_51.toInt ≤ v_24.toInt; omega), (rnd2_step hi_31_2 eg_49 (by omega) (by omega) (by omega) (by omega)), (rk_step hi_31_3 eg_49 (by omega))⟩ (by omega) hw50 (lv_sub hl52 [0, 1, 2, 3, 4, 5] rfl)
                exact loop_29 (Int.toNat (v_24.toInt - 0) + 1) 0 g_13 _ _ _ ⟨(by show 0 ≤ (0 : Int32).toInt; have k_0 : (0 : Int32).toInt = 0 := (by decide +kernel); omega), (by show (0 : Int32).toInt ≤ v_24.toInt; have k_0 : (0 : Int32).toInt = 0 := (by decide +kernel); omega), (by rw [show x_8.toInt + (0 : Int32).toInt = x_8.toInt from by have k9 : (0 : Int32).toInt = 0 := (by decide +kernel); omega]; exact hi_13_7), hi_13_8⟩ (by have k_0 : (0 : Int32).toInt = 0 := (by decide +kernel); omega) hw15 (lv_sub hl28 [0, 1, 2, 3, 4, 5] rfl)
              · skip
                have hc_27 := nleE (a := v_26.toInt) (b := 200) rfl (by decide +kernel) c_27
                refine lv_aload_n (pc := 139) E.1 E.2.1 dX12_laysRound_139 rfl (lv_at hl25 4 rfl) ?_
                refine lv_iconst (pc := 140) (v := 4) E.1 E.2.1 dX12_laysRound_140 (by decide +kernel) ?_
                refine cm_i (pc := 141) hw15 (rn_M (As := [.int 4]) (rest := []) E hw15 (s_errs2 l D cI cJ _ M mr mi (va_up (va_up (va_up mf 50 g_13) 51 g_11) 52 g_12) mg 4) (gdV q_1698 q_1700 q_60 q_162 q_1701) hdV_X12_errs ⟨rfl, rfl⟩ ⟨(Nat.le_of_ble_eq_true rfl), (Nat.le_of_ble_eq_true rfl)⟩ ⟨(Nat.le_of_ble_eq_true rfl), (Nat.le_of_ble_eq_true rfl)⟩ 12 rfl rfl rfl rfl hl25.1 rfl (Nat.le_of_ble_eq_true rfl) dX12_laysRound_141) (fun r_54 u_53 H1 locs hp hw55 => ?_)
                obtain ⟨nreadFault_56, nreadPlace_57⟩ := u_53
                generalize H1 = H at hw55 ⊢
                have hw58 : WD D A s.heap (MW cI cJ M mr (upd (upd mi 38 nreadFault_56) 39 nreadPlace_57) (va_up (va_up (va_up mf 50 g_13) 51 g_11) 52 g_12) mg) H locs := hw55
                have hp_59 := hp
                rcases hp_59 with rfl
                · skip
                  exact em_i (w1 := (fun (u : (Nat → Int32) × (Nat → Int32) × (Nat → Int32) × Int32 × Int32) => (MW cI cJ M mr (upd (upd mi 38 u.2.2.2.1) 39 u.2.2.2.2) (va_up (va_up (va_up mf 51 u.1) 52 u.2.1) 50 u.2.2.1) mg))) E hr hlk (g_11, g_12, g_13, nreadFault_56, nreadPlace_57) hw58 ⟨(show rndOK (mi 49).toInt (mi 6).toInt g_13 from (rndOK_same lf_round hi_13_8 (by omega))), (show (0 ≤ ((-1) : Int32).toInt → rnd2 g_13 ((-1) : Int32).toInt (mi 6).toInt) from (fun h => absurd h (by decide +kernel))), (Or.inl rfl)⟩ (Nat.le_of_ble_eq_true rfl) (Nat.le_of_ble_eq_true rfl) dX12_laysRound_144
            · skip
              have hc_23 := eqE (a := v_22.toInt) (b := 0) rfl (by decide +kernel) c_23
              refine lv_iconst (pc := 117) (v := 1) E.1 E.2.1 dX12_laysRound_117 (by decide +kernel) ?_
              refine lv_goto (pc := 118) (tgt := 127) E.1 E.2.1 dX12_laysRound_118 (by decide) ?_
              refine lv_istore (pc := 127) (lv' := [(4, .int 1), (3, .int x_10), (2, .int x_9), (1, .int x_8), (0, .ref M)]) E.1 E.2.1 dX12_laysRound_127 hl16 (by decide) rfl (fun ls hl60 => ?_)
              refine lv_iload_n (pc := 129) E.1 E.2.1 dX12_laysRound_129 rfl (lv_at hl60 3 rfl) ?_
              refine lv_iload (pc := 130) E.1 E.2.1 dX12_laysRound_130 (lv_at hl60 0 rfl) ?_
              refine lv_iadd (pc := 132) E.1 E.2.1 dX12_laysRound_132 ?_
              refine lv_topi (fun v_61 ev_61 => ?_)
              have hv_61 : v_61.toInt = x_8.toInt + 1 := by rw [ev_61]; exact addE rfl (by decide +kernel) (by omega)
              refine lv_sipush (pc := 133) (v := 200) E.1 E.2.1 dX12_laysRound_133 (by decide +kernel) ?_
              refine lv_icmp_le (pc := 136) (tgt := 145) E.1 E.2.1 dX12_laysRound_136 (by decide) (fun c_62 => ?_) (fun c_62 => ?_)
              · skip
                have hc_62 := leE (a := v_61.toInt) (b := 200) rfl (by decide +kernel) c_62
                refine lv_iconst (pc := 145) (v := 0) E.1 E.2.1 dX12_laysRound_145 (by decide +kernel) ?_
                refine lv_istore (pc := 146) (lv' := [(5, .int 0), (4, .int 1), (3, .int x_10), (2, .int x_9), (1, .int x_8), (0, .ref M)]) E.1 E.2.1 dX12_laysRound_146 hl60 (by decide) rfl (fun ls hl63 => ?_)
                have loop_64 : ∀ (k : Nat) (x_65 : Int32) (g_66 : Nat → Int32) (H : Heap) (locs : List Loc) (ls : Array Slot), (0 ≤ x_65.toInt) ∧ (x_65.toInt ≤ 1) ∧ (rnd2 g_66 (x_8.toInt + x_65.toInt) (mi 6).toInt) ∧ (∀ j : Nat, j < 200 → g_66 j = (mf 50) j) → 1 - x_65.toInt < (k : Int) → WD D A s.heap (MW cI cJ M mr mi (va_up (va_up (va_up mf 50 g_66) 51 g_11) 52 g_12) mg) H locs → lv_has ls 6 [(5, .int x_65), (4, .int 1), (3, .int x_10), (2, .int x_9), (1, .int x_8), (0, .ref M)] → W p l e ({ frames := 2, cells := 0, slots := 0, locals := 61 } : Room) s m ([.ref M] : List Value).toArray below meth c H locs 0 0 (MQ below (va_Qi (fun (r : Int32) (u : (Nat → Int32) × (Nat → Int32) × (Nat → Int32) × Int32 × Int32) => (rndOK (mi 49).toInt (mi 6).toInt u.2.2.1) ∧ ((0 ≤ (r : Int32).toInt → rnd2 u.2.2.1 (r : Int32).toInt (mi 6).toInt)) ∧ ((r = (-1)) ∨ (0 ≤ r.toInt ∧ r.toInt ≤ 200))) (fun u => QW D cI cJ A ((fun (u : (Nat → Int32) × (Nat → Int32) × (Nat → Int32) × Int32 × Int32) => (MW cI cJ M mr (upd (upd mi 38 u.2.2.2.1) 39 u.2.2.2.2) (va_up (va_up (va_up mf 51 u.1) 52 u.2.1) 50 u.2.2.1) mg)) u)) A) ([.ref M] : List Value).toArray s 0 0 A) (F0 m 148 ls []) := by
                  intro k
                  induction k with
                  | zero =>
                    intro x_65 g_66 _ _ _ hinv hm
                    obtain ⟨hi_66_0, hi_66_1, hi_66_2, hi_66_3⟩ := hinv
                    exact absurd hm (by omega)
                  | succ k ih_67 =>
                    intro x_65 g_66 H locs ls hinv hm hw68 hl69
                    obtain ⟨hi_66_0, hi_66_1, hi_66_2, hi_66_3⟩ := hinv
                    refine lv_iload (pc := 148) E.1 E.2.1 dX12_laysRound_148 (lv_at hl69 0 rfl) ?_
                    refine lv_iload (pc := 150) E.1 E.2.1 dX12_laysRound_150 (lv_at hl69 1 rfl) ?_
                    refine lv_icmp_ge (pc := 152) (tgt := 193) E.1 E.2.1 dX12_laysRound_152 (by decide) (fun c_70 => ?_) (fun c_70 => ?_)
                    · skip
                      have hc_70 := leE (a := 1) (b := x_65.toInt) (by decide +kernel) rfl c_70
                      refine lv_iload_n (pc := 193) E.1 E.2.1 dX12_laysRound_193 rfl (lv_at hl69 4 rfl) ?_
                      refine lv_iload (pc := 194) E.1 E.2.1 dX12_laysRound_194 (lv_at hl69 1 rfl) ?_
                      refine lv_iadd (pc := 196) E.1 E.2.1 dX12_laysRound_196 ?_
                      refine lv_topi (fun v_71 ev_71 => ?_)
                      have hv_71 : v_71.toInt = x_8.toInt + 1 := by rw [ev_71]; exact addE rfl (by decide +kernel) (by omega)
                      refine lv_istore_n (pc := 197) (lv' := [(1, .int v_71), (5, .int x_65), (4, .int 1), (3, .int x_10), (2, .int x_9), (0, .ref M)]) E.1 E.2.1 dX12_laysRound_197 rfl hl69 (by decide) rfl (fun ls hl72 => ?_)
                      obtain ⟨v_73, ev_73⟩ : ∃ z : Int32, x_10 + Int32.ofInt (1) = z := ⟨_, rfl⟩
                      have hv_73 : v_73.toInt = x_10.toInt + (1) := by rw [← ev_73]; exact incE rfl (by decide) (by omega)
                      refine lv_iinc (pc := 198) (v := v_73) (lv' := [(3, .int v_73), (1, .int v_71), (5, .int x_65), (4, .int 1), (2, .int x_9), (0, .ref M)]) E.1 E.2.1 dX12_laysRound_198 hl72 (k := 3) rfl ev_73 (by decide) rfl (fun ls hl74 => ?_)
                      refine lv_goto (pc := 201) (tgt := 6) E.1 E.2.1 dX12_laysRound_201 (by decide) ?_
                      exact ih_14 v_71 x_9 v_73 g_11 g_12 g_66 _ _ _ ⟨(by show 0 ≤ v_71.toInt; omega), (by show v_71.toInt ≤ 200; omega), hi_13_2, hi_13_3, (by show 0 ≤ v_73.toInt; omega), (by show v_73.toInt ≤ (mi 48).toInt; omega), (LZ_fwd hi_13_6 (by omega) (by omega) (hsg.1)), (by rw [show v_71.toInt = x_8.toInt + x_65.toInt from by omega]; exact hi_66_2), hi_66_3⟩ (by have q : lexM (mi 48).toInt x_9.toInt v_73.toInt g_11 g_12 < lexM (mi 48).toInt x_9.toInt x_10.toInt g_11 g_12 := lex_fwd (by omega) (by omega); omega) hw68 (lv_sub hl74 [0, 4, 1, 5] rfl)
                    · skip
                      have hc_70 := nleE (a := 1) (b := x_65.toInt) (by decide +kernel) rfl c_70
                      refine lv_aload_n (pc := 155) E.1 E.2.1 dX12_laysRound_155 rfl (lv_at hl69 5 rfl) ?_
                      refine x_get (pc := 156) (T := TX12) (N := 70) (ci := 12) (v := .ref (mr 50)) E hw68 inX12 0 50 q_1449 rfl rfl (by decide) rfl rfl dX12_laysRound_156 ?_
                      refine lv_sipush (pc := 159) (v := 200) E.1 E.2.1 dX12_laysRound_159 (by decide +kernel) ?_
                      refine lv_iload_n (pc := 162) E.1 E.2.1 dX12_laysRound_162 rfl (lv_at hl69 4 rfl) ?_
                      refine lv_iadd (pc := 163) E.1 E.2.1 dX12_laysRound_163 ?_
                      refine lv_topi (fun v_75 ev_75 => ?_)
                      have hv_75 : v_75.toInt = 200 + x_8.toInt := by rw [ev_75]; exact addE (by decide +kernel) rfl (by omega)
                      refine lv_iload (pc := 164) E.1 E.2.1 dX12_laysRound_164 (lv_at hl69 0 rfl) ?_
                      refine lv_iadd (pc := 166) E.1 E.2.1 dX12_laysRound_166 ?_
                      refine lv_topi (fun v_76 ev_76 => ?_)
                      have hv_76 : v_76.toInt = v_75.toInt + x_65.toInt := by rw [ev_76]; exact addE rfl rfl (by omega)
                      refine lv_aload_n (pc := 167) E.1 E.2.1 dX12_laysRound_167 rfl (lv_at hl69 5 rfl) ?_
                      refine x_get (pc := 168) (T := TX12) (N := 70) (ci := 12) (v := .ref (mr 46)) E hw68 inX12 0 46 q_1445 rfl rfl (by decide) rfl rfl dX12_laysRound_168 ?_
                      refine lv_iload_n (pc := 171) E.1 E.2.1 dX12_laysRound_171 rfl (lv_at hl69 2 rfl) ?_
                      refine x_iald (pc := 172) (f := (mf 46)) E hw68 23 rfl (inbE (a := x_10.toInt) rfl (by omega)) dX12_laysRound_172 ?_
                      refine lv_topi (fun v_77 ev_77 => ?_)
                      have hsv_77 : v_77.toInt = v_22.toInt := by rw [ev_77, ev_22]
                      refine lv_if_ne (pc := 173) (tgt := 185) E.1 E.2.1 dX12_laysRound_173 (by decide) (fun c_78 => absurd (meqE (a := v_77.toInt) (b := 0) rfl (by decide +kernel) (by omega)) c_78) (fun _ => ?_)
                      refine lv_aload_n (pc := 176) E.1 E.2.1 dX12_laysRound_176 rfl (lv_at hl69 5 rfl) ?_
                      refine x_get (pc := 177) (T := TX12) (N := 70) (ci := 12) (v := .ref (mr 47)) E hw68 inX12 0 47 q_1446 rfl rfl (by decide) rfl rfl dX12_laysRound_177 ?_
                      refine lv_iload_n (pc := 180) E.1 E.2.1 dX12_laysRound_180 rfl (lv_at hl69 2 rfl) ?_
                      refine x_iald (pc := 181) (f := (mf 47)) E hw68 24 rfl (inbE (a := x_10.toInt) rfl (by omega)) dX12_laysRound_181 ?_
                      refine lv_topi (fun v_79 ev_79 => ?_)
                      have hsw : 0 ≤ v_79.toInt ∧ v_79.toInt < (mi 6).toInt := by rw [ev_79]; exact hsg.2.1 (cE ev_77 (by have k1 : (0 : Int32).toInt = 0 := (by decide +kernel); omega))
                      refine lv_goto (pc := 182) (tgt := 186) E.1 E.2.1 dX12_laysRound_182 (by decide) ?_
                      refine x_iastG (pc := 186) (f := g_66) (wf := fun g => (MW cI cJ M mr mi (va_up (va_up (va_up mf 50 g) 51 g_11) 52 g_12) mg)) E hw68 25 rfl (inbE (a := v_76.toInt) rfl (by omega)) (fun _ => rfl) dX12_laysRound_186 (fun g_80 H locs eg_80 hw81 => ?_)
                      obtain ⟨v_82, ev_82⟩ : ∃ z : Int32, x_65 + Int32.ofInt (1) = z := ⟨_, rfl⟩
                      have hv_82 : v_82.toInt = x_65.toInt + (1) := by rw [← ev_82]; exact incE rfl (by decide) (by omega)
                      refine lv_iinc (pc := 187) (v := v_82) (lv' := [(5, .int v_82), (4, .int 1), (3, .int x_10), (2, .int x_9), (1, .int x_8), (0, .ref M)]) E.1 E.2.1 dX12_laysRound_187 hl69 (k := 0) rfl ev_82 (by decide) rfl (fun ls hl83 => ?_)
                      refine lv_goto (pc := 190) (tgt := 148) E.1 E.2.1 dX12_laysRound_190 (by decide) ?_
                      exact ih_67 v_82 g_80 _ _ _ ⟨(by show 0 ≤ v_82.toInt; omega), (by show v_82.toInt ≤ (1 : Int32).toInt; have k_0 : (1 : Int32).toInt = 1 := (by decide +kernel); omega), (rnd2_step hi_66_2 eg_80 (by omega) (by omega) (by omega) (by omega)), (rk_step hi_66_3 eg_80 (by omega))⟩ (by omega) hw81 (lv_sub hl83 [0, 1, 2, 3, 4, 5] rfl)
                exact loop_64 (Int.toNat (1 - 0) + 1) 0 g_13 _ _ _ ⟨(by show 0 ≤ (0 : Int32).toInt; have k_0 : (0 : Int32).toInt = 0 := (by decide +kernel); omega), (by show (0 : Int32).toInt ≤ (1 : Int32).toInt; have k_0 : (1 : Int32).toInt = 1 := (by decide +kernel); have k_1 : (0 : Int32).toInt = 0 := (by decide +kernel); omega), (by rw [show x_8.toInt + (0 : Int32).toInt = x_8.toInt from by have k9 : (0 : Int32).toInt = 0 := (by decide +kernel); omega]; exact hi_13_7), hi_13_8⟩ (by have k_0 : (0 : Int32).toInt = 0 := (by decide +kernel); omega) hw15 (lv_sub hl63 [0, 1, 2, 3, 4, 5] rfl)
              · skip
                have hc_62 := nleE (a := v_61.toInt) (b := 200) rfl (by decide +kernel) c_62
                refine lv_aload_n (pc := 139) E.1 E.2.1 dX12_laysRound_139 rfl (lv_at hl60 4 rfl) ?_
                refine lv_iconst (pc := 140) (v := 4) E.1 E.2.1 dX12_laysRound_140 (by decide +kernel) ?_
                refine cm_i (pc := 141) hw15 (rn_M (As := [.int 4]) (rest := []) E hw15 (s_errs2 l D cI cJ _ M mr mi (va_up (va_up (va_up mf 50 g_13) 51 g_11) 52 g_12) mg 4) (gdV q_1698 q_1700 q_60 q_162 q_1701) hdV_X12_errs ⟨rfl, rfl⟩ ⟨(Nat.le_of_ble_eq_true rfl), (Nat.le_of_ble_eq_true rfl)⟩ ⟨(Nat.le_of_ble_eq_true rfl), (Nat.le_of_ble_eq_true rfl)⟩ 12 rfl rfl rfl rfl hl60.1 rfl (Nat.le_of_ble_eq_true rfl) dX12_laysRound_141) (fun r_85 u_84 H1 locs hp hw86 => ?_)
                obtain ⟨nreadFault_87, nreadPlace_88⟩ := u_84
                generalize H1 = H at hw86 ⊢
                have hw89 : WD D A s.heap (MW cI cJ M mr (upd (upd mi 38 nreadFault_87) 39 nreadPlace_88) (va_up (va_up (va_up mf 50 g_13) 51 g_11) 52 g_12) mg) H locs := hw86
                have hp_90 := hp
                rcases hp_90 with rfl
                · skip
                  exact em_i (w1 := (fun (u : (Nat → Int32) × (Nat → Int32) × (Nat → Int32) × Int32 × Int32) => (MW cI cJ M mr (upd (upd mi 38 u.2.2.2.1) 39 u.2.2.2.2) (va_up (va_up (va_up mf 51 u.1) 52 u.2.1) 50 u.2.2.1) mg))) E hr hlk (g_11, g_12, g_13, nreadFault_87, nreadPlace_88) hw89 ⟨(show rndOK (mi 49).toInt (mi 6).toInt g_13 from (rndOK_same lf_round hi_13_8 (by omega))), (show (0 ≤ ((-1) : Int32).toInt → rnd2 g_13 ((-1) : Int32).toInt (mi 6).toInt) from (fun h => absurd h (by decide +kernel))), (Or.inl rfl)⟩ (Nat.le_of_ble_eq_true rfl) (Nat.le_of_ble_eq_true rfl) dX12_laysRound_144
          · skip
            have hc_21 := eqE (a := v_20.toInt) (b := 3) rfl (by decide +kernel) c_21
            have hse := SP_end hsp (cE ev_20 (by have k1 : (3 : Int32).toInt = 3 := (by decide +kernel); omega))
            have hsd : 1 ≤ x_9.toInt := by have q := hi_13_6.1; have q2 := hse.1; have q3 : (hd x_10.toNatClampNeg : Int) = (hd (x_10.toInt).toNat : Int) := rfl; omega
            refine lv_aload_n (pc := 60) E.1 E.2.1 dX12_laysRound_60 rfl (lv_at hl16 3 rfl) ?_
            refine x_get (pc := 61) (T := TX12) (N := 70) (ci := 12) (v := .ref (mr 52)) E hw15 inX12 0 52 q_1451 rfl rfl (by decide) rfl rfl dX12_laysRound_61 ?_
            refine lv_iload_n (pc := 64) E.1 E.2.1 dX12_laysRound_64 rfl (lv_at hl16 1 rfl) ?_
            refine lv_iconst (pc := 65) (v := 1) E.1 E.2.1 dX12_laysRound_65 (by decide +kernel) ?_
            refine lv_isub (pc := 66) E.1 E.2.1 dX12_laysRound_66 ?_
            refine lv_topi (fun v_91 ev_91 => ?_)
            have hv_91 : v_91.toInt = x_9.toInt - 1 := by rw [ev_91]; exact subE rfl (by decide +kernel) (by omega)
            refine lv_aload_n (pc := 67) E.1 E.2.1 dX12_laysRound_67 rfl (lv_at hl16 3 rfl) ?_
            refine x_get (pc := 68) (T := TX12) (N := 70) (ci := 12) (v := .ref (mr 52)) E hw15 inX12 0 52 q_1451 rfl rfl (by decide) rfl rfl dX12_laysRound_68 ?_
            refine lv_iload_n (pc := 71) E.1 E.2.1 dX12_laysRound_71 rfl (lv_at hl16 1 rfl) ?_
            refine lv_iconst (pc := 72) (v := 1) E.1 E.2.1 dX12_laysRound_72 (by decide +kernel) ?_
            refine lv_isub (pc := 73) E.1 E.2.1 dX12_laysRound_73 ?_
            refine lv_topi (fun v_92 ev_92 => ?_)
            have hv_92 : v_92.toInt = x_9.toInt - 1 := by rw [ev_92]; exact subE rfl (by decide +kernel) (by omega)
            refine x_iald (pc := 74) (f := g_12) E hw15 27 rfl (inbE (a := v_92.toInt) rfl (by omega)) dX12_laysRound_74 ?_
            refine lv_topi (fun v_93 ev_93 => ?_)
            have hsl := LZ_left hi_13_6 ev_93 (by omega)
            refine lv_iconst (pc := 75) (v := 1) E.1 E.2.1 dX12_laysRound_75 (by decide +kernel) ?_
            refine lv_isub (pc := 76) E.1 E.2.1 dX12_laysRound_76 ?_
            refine lv_topi (fun v_94 ev_94 => ?_)
            have hv_94 : v_94.toInt = v_93.toInt - 1 := by rw [ev_94]; exact subE rfl (by decide +kernel) (by omega)
            refine x_iastG (pc := 77) (f := g_12) (wf := fun g => (MW cI cJ M mr mi (va_up (va_up (va_up mf 50 g_13) 51 g_11) 52 g) mg)) E hw15 27 rfl (inbE (a := v_91.toInt) rfl (by omega)) (fun _ => rfl) dX12_laysRound_77 (fun g_95 H locs eg_95 hw96 => ?_)
            refine lv_aload_n (pc := 78) E.1 E.2.1 dX12_laysRound_78 rfl (lv_at hl16 3 rfl) ?_
            refine x_get (pc := 79) (T := TX12) (N := 70) (ci := 12) (v := .ref (mr 52)) E hw96 inX12 0 52 q_1451 rfl rfl (by decide) rfl rfl dX12_laysRound_79 ?_
            refine lv_iload_n (pc := 82) E.1 E.2.1 dX12_laysRound_82 rfl (lv_at hl16 1 rfl) ?_
            refine lv_iconst (pc := 83) (v := 1) E.1 E.2.1 dX12_laysRound_83 (by decide +kernel) ?_
            refine lv_isub (pc := 84) E.1 E.2.1 dX12_laysRound_84 ?_
            refine lv_topi (fun v_97 ev_97 => ?_)
            have hv_97 : v_97.toInt = x_9.toInt - 1 := by rw [ev_97]; exact subE rfl (by decide +kernel) (by omega)
            refine x_iald (pc := 85) (f := g_95) E hw96 27 rfl (inbE (a := v_97.toInt) rfl (by omega)) dX12_laysRound_85 ?_
            refine lv_topi (fun v_98 ev_98 => ?_)
            have hsv_98 : v_98.toInt = v_94.toInt := by rw [ev_98, eg_95, show v_97.toNatClampNeg = v_91.toNatClampNeg from (by have q_0 := idxI (x := v_97) (by omega); have q_1 := idxI (x := v_91) (by omega); omega), pk_us]
            refine lv_if_le (pc := 86) (tgt := 101) E.1 E.2.1 dX12_laysRound_86 (by decide) (fun c_99 => ?_) (fun c_99 => ?_)
            · skip
              have hc_99 := leE (a := v_98.toInt) (b := 0) rfl (by decide +kernel) c_99
              refine lv_iload_n (pc := 101) E.1 E.2.1 dX12_laysRound_101 rfl (lv_at hl16 1 rfl) ?_
              refine lv_iconst (pc := 102) (v := 1) E.1 E.2.1 dX12_laysRound_102 (by decide +kernel) ?_
              refine lv_isub (pc := 103) E.1 E.2.1 dX12_laysRound_103 ?_
              refine lv_topi (fun v_100 ev_100 => ?_)
              have hv_100 : v_100.toInt = x_9.toInt - 1 := by rw [ev_100]; exact subE rfl (by decide +kernel) (by omega)
              refine lv_istore_n (pc := 104) (lv' := [(2, .int v_100), (3, .int x_10), (1, .int x_8), (0, .ref M)]) E.1 E.2.1 dX12_laysRound_104 rfl hl16 (by decide) rfl (fun ls hl101 => ?_)
              refine lv_goto (pc := 105) (tgt := 198) E.1 E.2.1 dX12_laysRound_105 (by decide) ?_
              obtain ⟨v_102, ev_102⟩ : ∃ z : Int32, x_10 + Int32.ofInt (1) = z := ⟨_, rfl⟩
              have hv_102 : v_102.toInt = x_10.toInt + (1) := by rw [← ev_102]; exact incE rfl (by decide) (by omega)
              refine lv_iinc (pc := 198) (v := v_102) (lv' := [(3, .int v_102), (2, .int v_100), (1, .int x_8), (0, .ref M)]) E.1 E.2.1 dX12_laysRound_198 hl101 (k := 1) rfl ev_102 (by decide) rfl (fun ls hl103 => ?_)
              refine lv_goto (pc := 201) (tgt := 6) E.1 E.2.1 dX12_laysRound_201 (by decide) ?_
              exact ih_14 x_8 v_100 v_102 g_11 g_95 g_13 _ _ _ ⟨hi_13_0, hi_13_1, (by show 0 ≤ v_100.toInt; omega), (by show v_100.toInt ≤ 4; omega), (by show 0 ≤ v_102.toInt; omega), (by show v_102.toInt ≤ (mi 48).toInt; omega), (LZ_end hi_13_6 (by omega) (by omega) eg_95 (by omega) (hse.2) (by omega) (by omega)), hi_13_7, hi_13_8⟩ (by have q : lexM (mi 48).toInt v_100.toInt v_102.toInt g_11 g_95 < lexM (mi 48).toInt x_9.toInt x_10.toInt g_11 g_12 := lex_end hi_13_6 (by omega) eg_95 (by omega) (by omega) (by omega) (by omega); omega) hw96 (lv_sub hl103 [0, 1, 2, 3] rfl)
            · skip
              have hc_99 := nleE (a := v_98.toInt) (b := 0) rfl (by decide +kernel) c_99
              refine lv_aload_n (pc := 89) E.1 E.2.1 dX12_laysRound_89 rfl (lv_at hl16 3 rfl) ?_
              refine x_get (pc := 90) (T := TX12) (N := 70) (ci := 12) (v := .ref (mr 51)) E hw96 inX12 0 51 q_1450 rfl rfl (by decide) rfl rfl dX12_laysRound_90 ?_
              refine lv_iload_n (pc := 93) E.1 E.2.1 dX12_laysRound_93 rfl (lv_at hl16 1 rfl) ?_
              refine lv_iconst (pc := 94) (v := 1) E.1 E.2.1 dX12_laysRound_94 (by decide +kernel) ?_
              refine lv_isub (pc := 95) E.1 E.2.1 dX12_laysRound_95 ?_
              refine lv_topi (fun v_104 ev_104 => ?_)
              have hv_104 : v_104.toInt = x_9.toInt - 1 := by rw [ev_104]; exact subE rfl (by decide +kernel) (by omega)
              refine x_iald (pc := 96) (f := g_11) E hw96 26 rfl (inbE (a := v_104.toInt) rfl (by omega)) dX12_laysRound_96 ?_
              refine lv_topi (fun v_105 ev_105 => ?_)
              have hsb := LZ_back hi_13_6 ev_105 (by omega)
              refine lv_istore_n (pc := 97) (lv' := [(3, .int v_105), (2, .int x_9), (1, .int x_8), (0, .ref M)]) E.1 E.2.1 dX12_laysRound_97 rfl hl16 (by decide) rfl (fun ls hl106 => ?_)
              refine lv_goto (pc := 98) (tgt := 198) E.1 E.2.1 dX12_laysRound_98 (by decide) ?_
              obtain ⟨v_107, ev_107⟩ : ∃ z : Int32, v_105 + Int32.ofInt (1) = z := ⟨_, rfl⟩
              have hv_107 : v_107.toInt = v_105.toInt + (1) := by rw [← ev_107]; exact incE rfl (by decide) (by omega)
              refine lv_iinc (pc := 198) (v := v_107) (lv' := [(3, .int v_107), (2, .int x_9), (1, .int x_8), (0, .ref M)]) E.1 E.2.1 dX12_laysRound_198 hl106 (k := 0) rfl ev_107 (by decide) rfl (fun ls hl108 => ?_)
              refine lv_goto (pc := 201) (tgt := 6) E.1 E.2.1 dX12_laysRound_201 (by decide) ?_
              exact ih_14 x_8 x_9 v_107 g_11 g_95 g_13 _ _ _ ⟨hi_13_0, hi_13_1, hi_13_2, hi_13_3, (by show 0 ≤ v_107.toInt; omega), (by show v_107.toInt ≤ (mi 48).toInt; omega), (LZ_jump hi_13_6 (by omega) eg_95 (by omega) (by omega) ev_105 (by omega) (by omega)), hi_13_7, hi_13_8⟩ (by have q : lexM (mi 48).toInt x_9.toInt v_107.toInt g_11 g_95 < lexM (mi 48).toInt x_9.toInt x_10.toInt g_11 g_12 := lex_jump hi_13_6 (by omega) eg_95 (by omega) ev_93 (by omega) (by omega) ev_105 (by omega) (by omega) (by omega); omega) hw96 (lv_sub hl108 [0, 1, 2, 3] rfl)
        · skip
          have hc_19 := eqE (a := v_18.toInt) (b := 2) rfl (by decide +kernel) c_19
          have hsa := SP_again hsp (cE ev_18 (by have k1 : (2 : Int32).toInt = 2 := (by decide +kernel); omega))
          have hsd : x_9.toInt ≤ 3 := by have q := hi_13_6.1; have q2 := hsa.2.1; have q3 : (hd x_10.toNatClampNeg : Int) = (hd (x_10.toInt).toNat : Int) := rfl; omega
          refine lv_aload_n (pc := 24) E.1 E.2.1 dX12_laysRound_24 rfl (lv_at hl16 3 rfl) ?_
          refine x_get (pc := 25) (T := TX12) (N := 70) (ci := 12) (v := .ref (mr 51)) E hw15 inX12 0 51 q_1450 rfl rfl (by decide) rfl rfl dX12_laysRound_25 ?_
          refine lv_iload_n (pc := 28) E.1 E.2.1 dX12_laysRound_28 rfl (lv_at hl16 1 rfl) ?_
          refine lv_iload_n (pc := 29) E.1 E.2.1 dX12_laysRound_29 rfl (lv_at hl16 0 rfl) ?_
          refine x_iastG (pc := 30) (f := g_11) (wf := fun g => (MW cI cJ M mr mi (va_up (va_up (va_up mf 50 g_13) 51 g) 52 g_12) mg)) E hw15 26 rfl (inbE (a := x_9.toInt) rfl (by omega)) (fun _ => rfl) dX12_laysRound_30 (fun g_109 H locs eg_109 hw110 => ?_)
          refine lv_aload_n (pc := 31) E.1 E.2.1 dX12_laysRound_31 rfl (lv_at hl16 3 rfl) ?_
          refine x_get (pc := 32) (T := TX12) (N := 70) (ci := 12) (v := .ref (mr 52)) E hw110 inX12 0 52 q_1451 rfl rfl (by decide) rfl rfl dX12_laysRound_32 ?_
          refine lv_iload_n (pc := 35) E.1 E.2.1 dX12_laysRound_35 rfl (lv_at hl16 1 rfl) ?_
          refine lv_aload_n (pc := 36) E.1 E.2.1 dX12_laysRound_36 rfl (lv_at hl16 3 rfl) ?_
          refine x_get (pc := 37) (T := TX12) (N := 70) (ci := 12) (v := .ref (mr 47)) E hw110 inX12 0 47 q_1446 rfl rfl (by decide) rfl rfl dX12_laysRound_37 ?_
          refine lv_iload_n (pc := 40) E.1 E.2.1 dX12_laysRound_40 rfl (lv_at hl16 0 rfl) ?_
          refine x_iald (pc := 41) (f := (mf 47)) E hw110 24 rfl (inbE (a := x_10.toInt) rfl (by omega)) dX12_laysRound_41 ?_
          refine lv_topi (fun v_111 ev_111 => ?_)
          have hsh : 1 ≤ v_111.toInt ∧ v_111.toInt ≤ 9 := by rw [ev_111]; exact hsa.1
          refine x_iastG (pc := 42) (f := g_12) (wf := fun g => (MW cI cJ M mr mi (va_up (va_up (va_up mf 50 g_13) 51 g_109) 52 g) mg)) E hw110 27 rfl (inbE (a := x_9.toInt) rfl (by omega)) (fun _ => rfl) dX12_laysRound_42 (fun g_112 H locs eg_112 hw113 => ?_)
          refine lv_iload_n (pc := 43) E.1 E.2.1 dX12_laysRound_43 rfl (lv_at hl16 1 rfl) ?_
          refine lv_iconst (pc := 44) (v := 1) E.1 E.2.1 dX12_laysRound_44 (by decide +kernel) ?_
          refine lv_iadd (pc := 45) E.1 E.2.1 dX12_laysRound_45 ?_
          refine lv_topi (fun v_114 ev_114 => ?_)
          have hv_114 : v_114.toInt = x_9.toInt + 1 := by rw [ev_114]; exact addE rfl (by decide +kernel) (by omega)
          refine lv_istore_n (pc := 46) (lv' := [(2, .int v_114), (3, .int x_10), (1, .int x_8), (0, .ref M)]) E.1 E.2.1 dX12_laysRound_46 rfl hl16 (by decide) rfl (fun ls hl115 => ?_)
          refine lv_goto (pc := 47) (tgt := 198) E.1 E.2.1 dX12_laysRound_47 (by decide) ?_
          obtain ⟨v_116, ev_116⟩ : ∃ z : Int32, x_10 + Int32.ofInt (1) = z := ⟨_, rfl⟩
          have hv_116 : v_116.toInt = x_10.toInt + (1) := by rw [← ev_116]; exact incE rfl (by decide) (by omega)
          refine lv_iinc (pc := 198) (v := v_116) (lv' := [(3, .int v_116), (2, .int v_114), (1, .int x_8), (0, .ref M)]) E.1 E.2.1 dX12_laysRound_198 hl115 (k := 1) rfl ev_116 (by decide) rfl (fun ls hl117 => ?_)
          refine lv_goto (pc := 201) (tgt := 6) E.1 E.2.1 dX12_laysRound_201 (by decide) ?_
          exact ih_14 x_8 v_114 v_116 g_109 g_112 g_13 _ _ _ ⟨hi_13_0, hi_13_1, (by show 0 ≤ v_114.toInt; omega), (by show v_114.toInt ≤ 4; omega), (by show 0 ≤ v_116.toInt; omega), (by show v_116.toInt ≤ (mi 48).toInt; omega), (LZ_again hi_13_6 (by omega) (by omega) eg_109 eg_112 (by omega) (by omega) (by omega) hsh (by omega) (by omega) (hsa.2.2)), hi_13_7, hi_13_8⟩ (by have q : lexM (mi 48).toInt v_114.toInt v_116.toInt g_109 g_112 < lexM (mi 48).toInt x_9.toInt x_10.toInt g_11 g_12 := lex_again (by omega) eg_109 eg_112 (by omega) (by omega) (by omega) hsh (by omega) (by omega) (by omega); omega) hw113 (lv_sub hl117 [0, 1, 2, 3] rfl)
  exact loop_7 (Int.toNat (lexM (mi 48).toInt (0 : Int32).toInt (0 : Int32).toInt (mf 51) (mf 52)) + 1) 0 0 0 (mf 51) (mf 52) (mf 50) _ _ _ ⟨(by show 0 ≤ (0 : Int32).toInt; have k_0 : (0 : Int32).toInt = 0 := (by decide +kernel); omega), (by show (0 : Int32).toInt ≤ 200; have k_0 : (0 : Int32).toInt = 0 := (by decide +kernel); omega), (by show 0 ≤ (0 : Int32).toInt; have k_0 : (0 : Int32).toInt = 0 := (by decide +kernel); omega), (by show (0 : Int32).toInt ≤ 4; have k_0 : (0 : Int32).toInt = 0 := (by decide +kernel); omega), (by show 0 ≤ (0 : Int32).toInt; have k_0 : (0 : Int32).toInt = 0 := (by decide +kernel); omega), (by show (0 : Int32).toInt ≤ (mi 48).toInt; have k_0 : (0 : Int32).toInt = 0 := (by decide +kernel); omega), (LZ_nil hd0 (by decide +kernel) (by decide +kernel)), (rnd2_nil (by decide +kernel)), (fun _ _ => rfl)⟩ (by have k_0 : (0 : Int32).toInt = 0 := (by decide +kernel); have k_1 : (0 : Int32).toInt = 0 := (by decide +kernel); have k_2 : (0 : Int32).toInt = 0 := (by decide +kernel); omega) hw1 (lv_sub hl6 [0, 1, 2, 3] rfl)

set_option maxHeartbeats 4000000 in
set_option maxRecDepth 100000 in
theorem s_readRound (l : Launch) (D : va_G) (cI cJ : ClassId) (sz M : Nat) (mr : Nat → Nat) (mi : Nat → Int32) (mf : Nat → Nat → Int32) (mg : Nat → Nat → Int64)  (h0 : 0 ≤ (mi 23).toInt) (h1 : (mi 23).toInt ≤ (mi 22).toInt) (h2 : (mi 22).toInt ≤ (mi 21).toInt) (h3 : (mi 21).toInt ≤ 400) (h4 : 0 ≤ (mi 24).toInt) (h5 : (mi 24).toInt ≤ 4) (h6 : (mi 24).toInt ≤ 4 * (mi 22).toInt - 4 * (mi 23).toInt) (h7 : ((mf 26) 153).toInt = 32) (h8 : 0 ≤ (mi 6).toInt ∧ (mi 6).toInt ≤ 10) (h9 : (mi 35).toInt = 0) (h10 : (mi 49).toInt ≤ 200) (lf_words : (∀ j : Nat, j < 154 → (mf 26) j = w0 j)) (lf_again : AGN ((mi 24).toInt) ((mi 25).toInt) ((mi 23).toInt) ((mi 22).toInt)) (lf_round : rndOK (mi 49).toInt (mi 6).toInt (mf 50)) : Met l yX12_readRound (Cond.code yX12_readRound cX12_readRound 1 (some .int) :: GW) ({ frames := 7, cells := 0, slots := 0, locals := 171 } : Room) (va_Pc [.ref M] (PW D cI cJ sz (MW cI cJ M mr mi mf mg) xT)) (va_Qi (fun (r : Int32) (u : Int32 × Int32 × Int32 × Int32 × Int32 × Int32 × (Nat → Int32) × (Nat → Int32) × Int32 × Int32 × (Nat → Int32) × (Nat → Int32) × (Nat → Int32)) => (rndOK (mi 49).toInt (mi 6).toInt u.2.2.2.2.2.2.2.2.2.2.2.2) ∧ ((0 ≤ (r : Int32).toInt → rnd2 u.2.2.2.2.2.2.2.2.2.2.2.2 (r : Int32).toInt (mi 6).toInt)) ∧ ((r = (-1)) ∨ (0 ≤ r.toInt ∧ r.toInt ≤ 200))) (fun u => QW D cI cJ (va_A (MW cI cJ M mr mi mf mg) sz) ((fun (u : Int32 × Int32 × Int32 × Int32 × Int32 × Int32 × (Nat → Int32) × (Nat → Int32) × Int32 × Int32 × (Nat → Int32) × (Nat → Int32) × (Nat → Int32)) => (MW cI cJ M mr (upd (upd (upd (upd (upd (upd (upd (upd mi 22 u.1) 23 u.2.1) 24 u.2.2.1) 25 u.2.2.2.1) 38 u.2.2.2.2.1) 39 u.2.2.2.2.2.1) 48 u.2.2.2.2.2.2.2.2.1) 35 u.2.2.2.2.2.2.2.2.2.1) (va_up (va_up (va_up (va_up (va_up mf 46 u.2.2.2.2.2.2.1) 47 u.2.2.2.2.2.2.2.1) 51 u.2.2.2.2.2.2.2.2.2.2.1) 52 u.2.2.2.2.2.2.2.2.2.2.2.1) 50 u.2.2.2.2.2.2.2.2.2.2.2.2) mg)) u)) (va_A (MW cI cJ M mr mi mf mg) sz)) 0 0 (va_A (MW cI cJ M mr mi mf mg) sz) := by
  refine mk_met (y := yX12_readRound) (bytes := cX12_readRound) (maxL := 1) (avs := [.ref M]) (WS := (MW cI cJ M mr mi mf mg)) (Qf := fun A => va_Qi (fun (r : Int32) (u : Int32 × Int32 × Int32 × Int32 × Int32 × Int32 × (Nat → Int32) × (Nat → Int32) × Int32 × Int32 × (Nat → Int32) × (Nat → Int32) × (Nat → Int32)) => (rndOK (mi 49).toInt (mi 6).toInt u.2.2.2.2.2.2.2.2.2.2.2.2) ∧ ((0 ≤ (r : Int32).toInt → rnd2 u.2.2.2.2.2.2.2.2.2.2.2.2 (r : Int32).toInt (mi 6).toInt)) ∧ ((r = (-1)) ∨ (0 ≤ r.toInt ∧ r.toInt ≤ 200))) (fun u => QW D cI cJ A ((fun (u : Int32 × Int32 × Int32 × Int32 × Int32 × Int32 × (Nat → Int32) × (Nat → Int32) × Int32 × Int32 × (Nat → Int32) × (Nat → Int32) × (Nat → Int32)) => (MW cI cJ M mr (upd (upd (upd (upd (upd (upd (upd (upd mi 22 u.1) 23 u.2.1) 24 u.2.2.1) 25 u.2.2.2.1) 38 u.2.2.2.2.1) 39 u.2.2.2.2.2.1) 48 u.2.2.2.2.2.2.2.2.1) 35 u.2.2.2.2.2.2.2.2.2.1) (va_up (va_up (va_up (va_up (va_up mf 46 u.2.2.2.2.2.2.1) 47 u.2.2.2.2.2.2.2.1) 51 u.2.2.2.2.2.2.2.2.2.2.1) 52 u.2.2.2.2.2.2.2.2.2.2.2.1) 50 u.2.2.2.2.2.2.2.2.2.2.2.2) mg)) u)) A) (by decide) (Nat.le_of_ble_eq_true rfl) ?_
  intro p e s m below meth c A ls E hr hlk hnm hX hw1 hl2
  have hl3 : lv_has ls 1 [(0, .ref M)] := hl2
  refine lv_aload_n (pc := 0) E.1 E.2.1 dX12_readRound_0 rfl (lv_at hl3 0 rfl) ?_
  refine cm_i (pc := 1) hw1 (rn_M (As := []) (rest := []) E hw1 (s_readSteps l D cI cJ _ M mr mi mf mg h0 h1 h2 h3 h4 h5 h6 h7 h8 h9 (show (∀ j : Nat, j < 154 → (mf 26) j = w0 j) from lf_words) (show AGN ((mi 24).toInt) ((mi 25).toInt) ((mi 23).toInt) ((mi 22).toInt) from lf_again)) (gdV q_1734 q_1736 q_69 q_162 q_1737) hdV_X12_readSteps ⟨rfl, rfl⟩ ⟨(Nat.le_of_ble_eq_true rfl), (Nat.le_of_ble_eq_true rfl)⟩ ⟨(Nat.le_of_ble_eq_true rfl), (Nat.le_of_ble_eq_true rfl)⟩ 12 rfl rfl rfl rfl hl3.1 rfl (Nat.le_of_ble_eq_true rfl) dX12_readRound_1) (fun r_5 u_4 H1 locs hp hw6 => ?_)
  obtain ⟨nspot_7, nfrom_8, ntoken_9, nvalue_10, nreadFault_11, nreadPlace_12, gstepOp_13, gstepHow_14, nsteps_15, nopen_16⟩ := u_4
  generalize H1 = H at hw6 ⊢
  have hw17 : WD D A s.heap (MW cI cJ M mr (upd (upd (upd (upd (upd (upd (upd (upd mi 22 nspot_7) 23 nfrom_8) 24 ntoken_9) 25 nvalue_10) 35 nopen_16) 38 nreadFault_11) 39 nreadPlace_12) 48 nsteps_15) (va_up (va_up mf 46 gstepOp_13) 47 gstepHow_14) mg) H locs := hw6
  obtain ⟨hp_18, hp_19, hp_20, hp_21, hp_22, hp_23, hp_24, hp_25, hp_26⟩ := hp
  have hp_18 : 0 ≤ nfrom_8.toInt := hp_18
  have hp_19 : nfrom_8.toInt ≤ nspot_7.toInt := hp_19
  have hp_20 : nspot_7.toInt ≤ (mi 21).toInt := hp_20
  have hp_21 : 0 ≤ ntoken_9.toInt := hp_21
  have hp_22 : ntoken_9.toInt ≤ 4 := hp_22
  have hp_23 : ntoken_9.toInt ≤ 4 * nspot_7.toInt - 4 * nfrom_8.toInt := hp_23
  have hp_24 : AGN ntoken_9.toInt nvalue_10.toInt nfrom_8.toInt nspot_7.toInt := hp_24
  have hp_25 : r_5 = 0 → (∃ t : Nat, RSP gstepOp_13 gstepHow_14 (mi 6).toInt ((nsteps_15.toInt).toNat) t) := hp_25
  rcases hp_26 with rfl | ⟨rfl, ha_27, ha_28⟩
  · skip
    refine lv_iconst (pc := 4) (v := (-1)) E.1 E.2.1 dX12_readRound_4 (by decide +kernel) ?_
    refine lv_icmp_ne (pc := 5) (tgt := 12) E.1 E.2.1 dX12_readRound_5 (by decide) (fun c_29 => absurd (meqE (a := (-1)) (b := (-1)) (by decide +kernel) (by decide +kernel) (by omega)) c_29) (fun _ => ?_)
    refine lv_iconst (pc := 8) (v := (-1)) E.1 E.2.1 dX12_readRound_8 (by decide +kernel) ?_
    refine lv_goto (pc := 9) (tgt := 16) E.1 E.2.1 dX12_readRound_9 (by decide) ?_
    exact em_i (w1 := (fun (u : Int32 × Int32 × Int32 × Int32 × Int32 × Int32 × (Nat → Int32) × (Nat → Int32) × Int32 × Int32 × (Nat → Int32) × (Nat → Int32) × (Nat → Int32)) => (MW cI cJ M mr (upd (upd (upd (upd (upd (upd (upd (upd mi 22 u.1) 23 u.2.1) 24 u.2.2.1) 25 u.2.2.2.1) 38 u.2.2.2.2.1) 39 u.2.2.2.2.2.1) 48 u.2.2.2.2.2.2.2.2.1) 35 u.2.2.2.2.2.2.2.2.2.1) (va_up (va_up (va_up (va_up (va_up mf 46 u.2.2.2.2.2.2.1) 47 u.2.2.2.2.2.2.2.1) 51 u.2.2.2.2.2.2.2.2.2.2.1) 52 u.2.2.2.2.2.2.2.2.2.2.2.1) 50 u.2.2.2.2.2.2.2.2.2.2.2.2) mg))) E hr hlk (nspot_7, nfrom_8, ntoken_9, nvalue_10, nreadFault_11, nreadPlace_12, gstepOp_13, gstepHow_14, nsteps_15, nopen_16, (mf 51), (mf 52), (mf 50)) hw17 ⟨lf_round, (show (0 ≤ ((-1) : Int32).toInt → rnd2 (mf 50) ((-1) : Int32).toInt (mi 6).toInt) from (fun h => absurd h (by decide +kernel))), (Or.inl rfl)⟩ (Nat.le_of_ble_eq_true rfl) (Nat.le_of_ble_eq_true rfl) dX12_readRound_16
  · skip
    have hp_25 := hp_25 rfl
    have ha_27 : 0 ≤ nsteps_15.toInt := ha_27
    have ha_28 : nsteps_15.toInt ≤ 140 := ha_28
    refine lv_iconst (pc := 4) (v := (-1)) E.1 E.2.1 dX12_readRound_4 (by decide +kernel) ?_
    refine lv_icmp_ne (pc := 5) (tgt := 12) E.1 E.2.1 dX12_readRound_5 (by decide) (fun _ => ?_) (fun c_30 => absurd c_30 (mneE (a := 0) (b := (-1)) (by decide +kernel) (by decide +kernel) (by omega)))
    refine lv_aload_n (pc := 12) E.1 E.2.1 dX12_readRound_12 rfl (lv_at hl3 0 rfl) ?_
    refine cm_i (pc := 13) hw17 (rn_M (As := []) (rest := []) E hw17 (s_laysRound l D cI cJ _ M mr (upd (upd (upd (upd (upd (upd (upd (upd mi 22 nspot_7) 23 nfrom_8) 24 ntoken_9) 25 nvalue_10) 35 nopen_16) 38 nreadFault_11) 39 nreadPlace_12) 48 nsteps_15) (va_up (va_up mf 46 gstepOp_13) 47 gstepHow_14) mg h8 (by show 0 ≤ nsteps_15.toInt ∧ nsteps_15.toInt ≤ 140; omega) h10 (show rndOK (mi 49).toInt (mi 6).toInt (mf 50) from lf_round) (show (∃ t : Nat, RSP gstepOp_13 gstepHow_14 (mi 6).toInt ((nsteps_15.toInt).toNat) t) from hp_25)) (gdV q_1758 q_1760 q_75 q_162 q_1761) hdV_X12_laysRound ⟨rfl, rfl⟩ ⟨(Nat.le_of_ble_eq_true rfl), (Nat.le_of_ble_eq_true rfl)⟩ ⟨(Nat.le_of_ble_eq_true rfl), (Nat.le_of_ble_eq_true rfl)⟩ 12 rfl rfl rfl rfl hl3.1 rfl (Nat.le_of_ble_eq_true rfl) dX12_readRound_13) (fun r_32 u_31 H1 locs hp hw33 => ?_)
    obtain ⟨gbackTo_34, gtimesLeft_35, ground_36, nreadFault_37, nreadPlace_38⟩ := u_31
    generalize H1 = H at hw33 ⊢
    have hw39 : WD D A s.heap (MW cI cJ M mr (upd (upd (upd (upd (upd (upd (upd (upd mi 22 nspot_7) 23 nfrom_8) 24 ntoken_9) 25 nvalue_10) 35 nopen_16) 38 nreadFault_37) 39 nreadPlace_38) 48 nsteps_15) (va_up (va_up (va_up (va_up (va_up mf 46 gstepOp_13) 47 gstepHow_14) 50 ground_36) 51 gbackTo_34) 52 gtimesLeft_35) mg) H locs := hw33
    obtain ⟨hp_40, hp_41, hp_42⟩ := hp
    have hp_40 : rndOK (mi 49).toInt (mi 6).toInt ground_36 := hp_40
    have hp_41 : (0 ≤ (r_32 : Int32).toInt → rnd2 ground_36 (r_32 : Int32).toInt (mi 6).toInt) := hp_41
    rcases hp_42 with rfl | ⟨ha_43, ha_44⟩
    · skip
      exact em_i (w1 := (fun (u : Int32 × Int32 × Int32 × Int32 × Int32 × Int32 × (Nat → Int32) × (Nat → Int32) × Int32 × Int32 × (Nat → Int32) × (Nat → Int32) × (Nat → Int32)) => (MW cI cJ M mr (upd (upd (upd (upd (upd (upd (upd (upd mi 22 u.1) 23 u.2.1) 24 u.2.2.1) 25 u.2.2.2.1) 38 u.2.2.2.2.1) 39 u.2.2.2.2.2.1) 48 u.2.2.2.2.2.2.2.2.1) 35 u.2.2.2.2.2.2.2.2.2.1) (va_up (va_up (va_up (va_up (va_up mf 46 u.2.2.2.2.2.2.1) 47 u.2.2.2.2.2.2.2.1) 51 u.2.2.2.2.2.2.2.2.2.2.1) 52 u.2.2.2.2.2.2.2.2.2.2.2.1) 50 u.2.2.2.2.2.2.2.2.2.2.2.2) mg))) E hr hlk (nspot_7, nfrom_8, ntoken_9, nvalue_10, nreadFault_37, nreadPlace_38, gstepOp_13, gstepHow_14, nsteps_15, nopen_16, gbackTo_34, gtimesLeft_35, ground_36) hw39 ⟨hp_40, (show (0 ≤ ((-1) : Int32).toInt → rnd2 ground_36 ((-1) : Int32).toInt (mi 6).toInt) from (fun h => absurd h (by decide +kernel))), (Or.inl rfl)⟩ (Nat.le_of_ble_eq_true rfl) (Nat.le_of_ble_eq_true rfl) dX12_readRound_16
    · skip
      have ha_43 : 0 ≤ r_32.toInt := ha_43
      have ha_44 : r_32.toInt ≤ 200 := ha_44
      exact em_i (w1 := (fun (u : Int32 × Int32 × Int32 × Int32 × Int32 × Int32 × (Nat → Int32) × (Nat → Int32) × Int32 × Int32 × (Nat → Int32) × (Nat → Int32) × (Nat → Int32)) => (MW cI cJ M mr (upd (upd (upd (upd (upd (upd (upd (upd mi 22 u.1) 23 u.2.1) 24 u.2.2.1) 25 u.2.2.2.1) 38 u.2.2.2.2.1) 39 u.2.2.2.2.2.1) 48 u.2.2.2.2.2.2.2.2.1) 35 u.2.2.2.2.2.2.2.2.2.1) (va_up (va_up (va_up (va_up (va_up mf 46 u.2.2.2.2.2.2.1) 47 u.2.2.2.2.2.2.2.1) 51 u.2.2.2.2.2.2.2.2.2.2.1) 52 u.2.2.2.2.2.2.2.2.2.2.2.1) 50 u.2.2.2.2.2.2.2.2.2.2.2.2) mg))) E hr hlk (nspot_7, nfrom_8, ntoken_9, nvalue_10, nreadFault_37, nreadPlace_38, gstepOp_13, gstepHow_14, nsteps_15, nopen_16, gbackTo_34, gtimesLeft_35, ground_36) hw39 ⟨hp_40, (show (0 ≤ (r_32 : Int32).toInt → rnd2 ground_36 (r_32 : Int32).toInt (mi 6).toInt) from hp_41), (Or.inr (⟨(by show 0 ≤ r_32.toInt; omega), (by show r_32.toInt ≤ 200; omega)⟩))⟩ (Nat.le_of_ble_eq_true rfl) (Nat.le_of_ble_eq_true rfl) dX12_readRound_16
