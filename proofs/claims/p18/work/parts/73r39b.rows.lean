set_option maxHeartbeats 4000000 in
set_option maxRecDepth 100000 in
theorem s_planAt (l : Launch) (D : va_G) (cI cJ : ClassId) (sz M : Nat) (mr : Nat → Nat) (mi : Nat → Int32) (mf : Nat → Nat → Int32) (mg : Nat → Nat → Int64) (z_k : Int32) (z_h : Int32) (z_done : Int32) (h0 : 0 ≤ z_k.toInt) (h1 : z_k.toInt ≤ 10) (h2 : 0 ≤ z_h.toInt) (h3 : z_h.toInt ≤ 9) (h4 : 0 ≤ z_done.toInt) (h5 : z_done.toInt ≤ 1023) : Met l yX12_planAt (Cond.code yX12_planAt cX12_planAt 4 (some .int) :: GW) ({ frames := 1, cells := 0, slots := 0, locals := 40 } : Room) (va_Pc [.ref M, .int z_k, .int z_h, .int z_done] (PW D cI cJ sz (MW cI cJ M mr mi mf mg) xT)) (va_Qi (fun (r : Int32) (u : Unit) => (r.toInt = 10240 * z_k.toInt + 1024 * z_h.toInt + z_done.toInt)) (fun u => QW D cI cJ (va_A (MW cI cJ M mr mi mf mg) sz) ((fun (u : Unit) => (MW cI cJ M mr mi mf mg)) u)) (va_A (MW cI cJ M mr mi mf mg) sz)) 0 0 (va_A (MW cI cJ M mr mi mf mg) sz) := by
  refine mk_met (y := yX12_planAt) (bytes := cX12_planAt) (maxL := 4) (avs := [.ref M, .int z_k, .int z_h, .int z_done]) (WS := (MW cI cJ M mr mi mf mg)) (Qf := fun A => va_Qi (fun (r : Int32) (u : Unit) => (r.toInt = 10240 * z_k.toInt + 1024 * z_h.toInt + z_done.toInt)) (fun u => QW D cI cJ A ((fun (u : Unit) => (MW cI cJ M mr mi mf mg)) u)) A) (by decide) (Nat.le_of_ble_eq_true rfl) ?_
  intro p e s m below meth c A ls E hr hlk hnm hX hw1 hl2
  have hl3 : lv_has ls 4 [(0, .ref M), (1, .int z_k), (2, .int z_h), (3, .int z_done)] := hl2
  refine lv_sipush (pc := 0) (v := 1024) E.1 E.2.1 dX12_planAt_0 (by decide +kernel) ?_
  refine lv_bipush (pc := 3) (v := 10) E.1 E.2.1 dX12_planAt_3 (by decide +kernel) ?_
  refine lv_iload_n (pc := 5) E.1 E.2.1 dX12_planAt_5 rfl (lv_at hl3 1 rfl) ?_
  refine lv_imul (pc := 6) E.1 E.2.1 dX12_planAt_6 ?_
  refine lv_topi (fun v_4 ev_4 => ?_)
  have hv_4 : v_4.toInt = 10 * z_k.toInt := by rw [ev_4]; exact mulE (by decide +kernel) rfl (by omega)
  refine lv_iload_n (pc := 7) E.1 E.2.1 dX12_planAt_7 rfl (lv_at hl3 2 rfl) ?_
  refine lv_iadd (pc := 8) E.1 E.2.1 dX12_planAt_8 ?_
  refine lv_topi (fun v_5 ev_5 => ?_)
  have hv_5 : v_5.toInt = v_4.toInt + z_h.toInt := by rw [ev_5]; exact addE rfl rfl (by omega)
  refine lv_imul (pc := 9) E.1 E.2.1 dX12_planAt_9 ?_
  refine lv_topi (fun v_6 ev_6 => ?_)
  have hv_6 : v_6.toInt = 1024 * v_5.toInt := by rw [ev_6]; exact mulE (by decide +kernel) rfl (by omega)
  refine lv_iload_n (pc := 10) E.1 E.2.1 dX12_planAt_10 rfl (lv_at hl3 3 rfl) ?_
  refine lv_iadd (pc := 11) E.1 E.2.1 dX12_planAt_11 ?_
  refine lv_topi (fun v_7 ev_7 => ?_)
  have hv_7 : v_7.toInt = v_6.toInt + z_done.toInt := by rw [ev_7]; exact addE rfl rfl (by omega)
  exact em_i (w1 := (fun (u : Unit) => (MW cI cJ M mr mi mf mg))) E hr hlk () hw1 (by show v_7.toInt = 10240 * z_k.toInt + 1024 * z_h.toInt + z_done.toInt; omega) (Nat.le_of_ble_eq_true rfl) (Nat.le_of_ble_eq_true rfl) dX12_planAt_12

set_option maxHeartbeats 4000000 in
set_option maxRecDepth 100000 in
theorem s_doneBy (l : Launch) (D : va_G) (cI cJ : ClassId) (sz M : Nat) (mr : Nat → Nat) (mi : Nat → Int32) (mf : Nat → Nat → Int32) (mg : Nat → Nat → Int64) (z_k : Int32) (z_fr : Int32) (z_h : Int32) (z_done : Int32) (h0 : 0 ≤ z_h.toInt) (h1 : z_h.toInt ≤ 9) (h2 : 0 ≤ z_done.toInt) (h3 : z_done.toInt ≤ 1023) (h4 : 0 ≤ (mi 44).toInt ∧ (mi 44).toInt ≤ 10) : Met l yX12_doneBy (Cond.code yX12_doneBy cX12_doneBy 9 (some .int) :: GW) ({ frames := 2, cells := 0, slots := 0, locals := 63 } : Room) (va_Pc [.ref M, .int z_k, .int z_fr, .int z_h, .int z_done] (PW D cI cJ sz (MW cI cJ M mr mi mf mg) xT)) (va_Qi (fun (r : Int32) (u : Unit) => (0 ≤ r.toInt) ∧ (r.toInt ≤ 1023)) (fun u => QW D cI cJ (va_A (MW cI cJ M mr mi mf mg) sz) ((fun (u : Unit) => (MW cI cJ M mr mi mf mg)) u)) (va_A (MW cI cJ M mr mi mf mg) sz)) 0 0 (va_A (MW cI cJ M mr mi mf mg) sz) := by
  refine mk_met (y := yX12_doneBy) (bytes := cX12_doneBy) (maxL := 9) (avs := [.ref M, .int z_k, .int z_fr, .int z_h, .int z_done]) (WS := (MW cI cJ M mr mi mf mg)) (Qf := fun A => va_Qi (fun (r : Int32) (u : Unit) => (0 ≤ r.toInt) ∧ (r.toInt ≤ 1023)) (fun u => QW D cI cJ A ((fun (u : Unit) => (MW cI cJ M mr mi mf mg)) u)) A) (by decide) (Nat.le_of_ble_eq_true rfl) ?_
  intro p e s m below meth c A ls E hr hlk hnm hX hw1 hl2
  have hl3 : lv_has ls 9 [(0, .ref M), (1, .int z_k), (2, .int z_fr), (3, .int z_h), (4, .int z_done)] := hl2
  have join_4 : ∀ (x_5 : Int32) (H : Heap) (locs : List Loc) (ls : Array Slot), True → WD D A s.heap (MW cI cJ M mr mi mf mg) H locs → lv_has ls 9 [(0, .ref M), (1, .int z_k), (2, .int z_fr), (3, .int z_h), (4, .int z_done), (5, .int x_5)] → W p l e ({ frames := 2, cells := 0, slots := 0, locals := 63 } : Room) s m ([.ref M, .int z_k, .int z_fr, .int z_h, .int z_done] : List Value).toArray below meth c H locs 0 0 (MQ below (va_Qi (fun (r : Int32) (u : Unit) => (0 ≤ r.toInt) ∧ (r.toInt ≤ 1023)) (fun u => QW D cI cJ A ((fun (u : Unit) => (MW cI cJ M mr mi mf mg)) u)) A) ([.ref M, .int z_k, .int z_fr, .int z_h, .int z_done] : List Value).toArray s 0 0 A) (F0 m 45 ls []) := by
    intro x_5 H locs ls hinv hw6 hl7
    refine lv_iload (pc := 45) E.1 E.2.1 dX12_doneBy_45 (lv_at hl7 4 rfl) ?_
    refine lv_istore (pc := 47) (lv' := [(6, .int z_done), (0, .ref M), (1, .int z_k), (2, .int z_fr), (3, .int z_h), (4, .int z_done), (5, .int x_5)]) E.1 E.2.1 dX12_doneBy_47 hl7 (by decide) rfl (fun ls hl8 => ?_)
    refine lv_iconst (pc := 49) (v := 0) E.1 E.2.1 dX12_doneBy_49 (by decide +kernel) ?_
    refine lv_istore (pc := 50) (lv' := [(7, .int 0), (6, .int z_done), (0, .ref M), (1, .int z_k), (2, .int z_fr), (3, .int z_h), (4, .int z_done), (5, .int x_5)]) E.1 E.2.1 dX12_doneBy_50 hl8 (by decide) rfl (fun ls hl9 => ?_)
    have loop_10 : ∀ (k : Nat) (x_11 : Int32) (x_12 : Int32) (H : Heap) (locs : List Loc) (ls : Array Slot), (0 ≤ x_11.toInt) ∧ (x_11.toInt ≤ (mi 44).toInt) ∧ (0 ≤ x_12.toInt) ∧ (x_12.toInt ≤ 1023) → (mi 44).toInt - x_11.toInt < (k : Int) → WD D A s.heap (MW cI cJ M mr mi mf mg) H locs → lv_has ls 9 [(7, .int x_11), (6, .int x_12), (0, .ref M), (1, .int z_k), (2, .int z_fr), (3, .int z_h), (4, .int z_done), (5, .int x_5)] → W p l e ({ frames := 2, cells := 0, slots := 0, locals := 63 } : Room) s m ([.ref M, .int z_k, .int z_fr, .int z_h, .int z_done] : List Value).toArray below meth c H locs 0 0 (MQ below (va_Qi (fun (r : Int32) (u : Unit) => (0 ≤ r.toInt) ∧ (r.toInt ≤ 1023)) (fun u => QW D cI cJ A ((fun (u : Unit) => (MW cI cJ M mr mi mf mg)) u)) A) ([.ref M, .int z_k, .int z_fr, .int z_h, .int z_done] : List Value).toArray s 0 0 A) (F0 m 52 ls []) := by
      intro k
      induction k with
      | zero =>
        intro x_11 x_12 _ _ _ hinv hm
        obtain ⟨hi_12_0, hi_12_1, hi_12_2, hi_12_3⟩ := hinv
        exact absurd hm (by omega)
      | succ k ih_13 =>
        intro x_11 x_12 H locs ls hinv hm hw14 hl15
        obtain ⟨hi_12_0, hi_12_1, hi_12_2, hi_12_3⟩ := hinv
        refine lv_iload (pc := 52) E.1 E.2.1 dX12_doneBy_52 (lv_at hl15 0 rfl) ?_
        refine lv_aload_n (pc := 54) E.1 E.2.1 dX12_doneBy_54 rfl (lv_at hl15 2 rfl) ?_
        refine x_get (pc := 55) (T := TX12) (N := 70) (ci := 12) (v := .int (mi 44)) E hw14 inX12 0 44 q_1443 rfl rfl (by decide) rfl rfl dX12_doneBy_55 ?_
        refine lv_icmp_ge (pc := 58) (tgt := 170) E.1 E.2.1 dX12_doneBy_58 (by decide) (fun c_16 => ?_) (fun c_16 => ?_)
        · skip
          have hc_16 := leE (a := (mi 44).toInt) (b := x_11.toInt) rfl rfl c_16
          refine lv_iload (pc := 170) E.1 E.2.1 dX12_doneBy_170 (lv_at hl15 1 rfl) ?_
          exact em_i (w1 := (fun (u : Unit) => (MW cI cJ M mr mi mf mg))) E hr hlk () hw14 ⟨hi_12_2, hi_12_3⟩ (Nat.le_of_ble_eq_true rfl) (Nat.le_of_ble_eq_true rfl) dX12_doneBy_172
        · skip
          have hc_16 := nleE (a := (mi 44).toInt) (b := x_11.toInt) rfl rfl c_16
          refine lv_aload_n (pc := 61) E.1 E.2.1 dX12_doneBy_61 rfl (lv_at hl15 2 rfl) ?_
          refine lv_iload (pc := 62) E.1 E.2.1 dX12_doneBy_62 (lv_at hl15 0 rfl) ?_
          refine lv_iconst (pc := 64) (v := 1) E.1 E.2.1 dX12_doneBy_64 (by decide +kernel) ?_
          refine cm_i (pc := 65) hw14 (rn_M (As := [.int x_11, .int 1]) (rest := []) E hw14 (s_ofNeed l D cI cJ _ M mr mi mf mg x_11 1 (by show 0 ≤ x_11.toInt ∧ x_11.toInt ≤ 9; omega) (by show 0 ≤ (1 : Int32).toInt ∧ (1 : Int32).toInt ≤ 4; have k_0 : (1 : Int32).toInt = 1 := (by decide +kernel); omega)) (gdV q_1871 q_1873 q_100 q_162 q_1874) hdV_X12_ofNeed ⟨rfl, rfl⟩ ⟨(Nat.le_of_ble_eq_true rfl), (Nat.le_of_ble_eq_true rfl)⟩ ⟨(Nat.le_of_ble_eq_true rfl), (Nat.le_of_ble_eq_true rfl)⟩ 12 rfl rfl rfl rfl hl15.1 rfl (Nat.le_of_ble_eq_true rfl) dX12_doneBy_65) (fun r_18 u_17 H1 locs hp hw19 => ?_)
          generalize H1 = H at hw19 ⊢
          have hw20 : WD D A s.heap (MW cI cJ M mr mi mf mg) H locs := hw19
          refine lv_iload_n (pc := 68) E.1 E.2.1 dX12_doneBy_68 rfl (lv_at hl15 5 rfl) ?_
          refine lv_icmp_ne (pc := 69) (tgt := 131) E.1 E.2.1 dX12_doneBy_69 (by decide) (fun c_21 => ?_) (fun c_21 => ?_)
          · skip
            have hc_21 := neE (a := r_18.toInt) (b := z_h.toInt) rfl rfl c_21
            refine lv_iconst (pc := 131) (v := 0) E.1 E.2.1 dX12_doneBy_131 (by decide +kernel) ?_
            refine lv_istore (pc := 132) (lv' := [(8, .int 0), (7, .int x_11), (6, .int x_12), (0, .ref M), (1, .int z_k), (2, .int z_fr), (3, .int z_h), (4, .int z_done), (5, .int x_5)]) E.1 E.2.1 dX12_doneBy_132 hl15 (by decide) rfl (fun ls hl22 => ?_)
            refine lv_iload (pc := 134) E.1 E.2.1 dX12_doneBy_134 (lv_at hl22 0 rfl) ?_
            refine lv_if_eq (pc := 136) (tgt := 164) E.1 E.2.1 dX12_doneBy_136 (by decide) (fun _ => ?_) (fun c_23 => absurd (meqE (a := 0) (b := 0) (by decide +kernel) (by decide +kernel) (by omega)) c_23)
            obtain ⟨v_24, ev_24⟩ : ∃ z : Int32, x_11 + Int32.ofInt (1) = z := ⟨_, rfl⟩
            have hv_24 : v_24.toInt = x_11.toInt + (1) := by rw [← ev_24]; exact incE rfl (by decide) (by omega)
            refine lv_iinc (pc := 164) (v := v_24) (lv' := [(7, .int v_24), (8, .int 0), (6, .int x_12), (0, .ref M), (1, .int z_k), (2, .int z_fr), (3, .int z_h), (4, .int z_done), (5, .int x_5)]) E.1 E.2.1 dX12_doneBy_164 hl22 (k := 1) rfl ev_24 (by decide) rfl (fun ls hl25 => ?_)
            refine lv_goto (pc := 167) (tgt := 52) E.1 E.2.1 dX12_doneBy_167 (by decide) ?_
            exact ih_13 v_24 x_12 _ _ _ ⟨(by show 0 ≤ v_24.toInt; omega), (by show v_24.toInt ≤ (mi 44).toInt; omega), hi_12_2, hi_12_3⟩ (by omega) hw20 (lv_sub hl25 [0, 2, 3, 4, 5, 6, 7, 8] rfl)
          · skip
            have hc_21 := eqE (a := r_18.toInt) (b := z_h.toInt) rfl rfl c_21
            refine lv_aload_n (pc := 72) E.1 E.2.1 dX12_doneBy_72 rfl (lv_at hl15 2 rfl) ?_
            refine x_get (pc := 73) (T := TX12) (N := 70) (ci := 12) (v := .ref (mr 1)) E hw20 inX12 0 1 q_1400 rfl rfl (by decide) rfl rfl dX12_doneBy_73 ?_
            refine lv_bipush (pc := 76) (v := 46) E.1 E.2.1 dX12_doneBy_76 (by decide +kernel) ?_
            refine lv_iload (pc := 78) E.1 E.2.1 dX12_doneBy_78 (lv_at hl15 0 rfl) ?_
            refine lv_iadd (pc := 80) E.1 E.2.1 dX12_doneBy_80 ?_
            refine lv_topi (fun v_26 ev_26 => ?_)
            have hv_26 : v_26.toInt = 46 + x_11.toInt := by rw [ev_26]; exact addE (by decide +kernel) rfl (by omega)
            refine x_iald (pc := 81) (f := (mf 1)) E hw20 1 rfl (inbE (a := v_26.toInt) rfl (by omega)) dX12_doneBy_81 ?_
            refine lv_topi (fun v_27 ev_27 => ?_)
            refine lv_if_ne (pc := 82) (tgt := 131) E.1 E.2.1 dX12_doneBy_82 (by decide) (fun c_28 => ?_) (fun c_28 => ?_)
            · skip
              have hc_28 := neE (a := v_27.toInt) (b := 0) rfl (by decide +kernel) c_28
              refine lv_iconst (pc := 131) (v := 0) E.1 E.2.1 dX12_doneBy_131 (by decide +kernel) ?_
              refine lv_istore (pc := 132) (lv' := [(8, .int 0), (7, .int x_11), (6, .int x_12), (0, .ref M), (1, .int z_k), (2, .int z_fr), (3, .int z_h), (4, .int z_done), (5, .int x_5)]) E.1 E.2.1 dX12_doneBy_132 hl15 (by decide) rfl (fun ls hl29 => ?_)
              refine lv_iload (pc := 134) E.1 E.2.1 dX12_doneBy_134 (lv_at hl29 0 rfl) ?_
              refine lv_if_eq (pc := 136) (tgt := 164) E.1 E.2.1 dX12_doneBy_136 (by decide) (fun _ => ?_) (fun c_30 => absurd (meqE (a := 0) (b := 0) (by decide +kernel) (by decide +kernel) (by omega)) c_30)
              obtain ⟨v_31, ev_31⟩ : ∃ z : Int32, x_11 + Int32.ofInt (1) = z := ⟨_, rfl⟩
              have hv_31 : v_31.toInt = x_11.toInt + (1) := by rw [← ev_31]; exact incE rfl (by decide) (by omega)
              refine lv_iinc (pc := 164) (v := v_31) (lv' := [(7, .int v_31), (8, .int 0), (6, .int x_12), (0, .ref M), (1, .int z_k), (2, .int z_fr), (3, .int z_h), (4, .int z_done), (5, .int x_5)]) E.1 E.2.1 dX12_doneBy_164 hl29 (k := 1) rfl ev_31 (by decide) rfl (fun ls hl32 => ?_)
              refine lv_goto (pc := 167) (tgt := 52) E.1 E.2.1 dX12_doneBy_167 (by decide) ?_
              exact ih_13 v_31 x_12 _ _ _ ⟨(by show 0 ≤ v_31.toInt; omega), (by show v_31.toInt ≤ (mi 44).toInt; omega), hi_12_2, hi_12_3⟩ (by omega) hw20 (lv_sub hl32 [0, 2, 3, 4, 5, 6, 7, 8] rfl)
            · skip
              have hc_28 := eqE (a := v_27.toInt) (b := 0) rfl (by decide +kernel) c_28
              refine lv_aload_n (pc := 85) E.1 E.2.1 dX12_doneBy_85 rfl (lv_at hl15 2 rfl) ?_
              refine x_get (pc := 86) (T := TX12) (N := 70) (ci := 12) (v := .ref (mr 1)) E hw20 inX12 0 1 q_1400 rfl rfl (by decide) rfl rfl dX12_doneBy_86 ?_
              refine lv_bipush (pc := 89) (v := 56) E.1 E.2.1 dX12_doneBy_89 (by decide +kernel) ?_
              refine lv_iload (pc := 91) E.1 E.2.1 dX12_doneBy_91 (lv_at hl15 0 rfl) ?_
              refine lv_iadd (pc := 93) E.1 E.2.1 dX12_doneBy_93 ?_
              refine lv_topi (fun v_33 ev_33 => ?_)
              have hv_33 : v_33.toInt = 56 + x_11.toInt := by rw [ev_33]; exact addE (by decide +kernel) rfl (by omega)
              refine x_iald (pc := 94) (f := (mf 1)) E hw20 1 rfl (inbE (a := v_33.toInt) rfl (by omega)) dX12_doneBy_94 ?_
              refine lv_topi (fun v_34 ev_34 => ?_)
              refine lv_if_ne (pc := 95) (tgt := 131) E.1 E.2.1 dX12_doneBy_95 (by decide) (fun c_35 => ?_) (fun c_35 => ?_)
              · skip
                have hc_35 := neE (a := v_34.toInt) (b := 0) rfl (by decide +kernel) c_35
                refine lv_iconst (pc := 131) (v := 0) E.1 E.2.1 dX12_doneBy_131 (by decide +kernel) ?_
                refine lv_istore (pc := 132) (lv' := [(8, .int 0), (7, .int x_11), (6, .int x_12), (0, .ref M), (1, .int z_k), (2, .int z_fr), (3, .int z_h), (4, .int z_done), (5, .int x_5)]) E.1 E.2.1 dX12_doneBy_132 hl15 (by decide) rfl (fun ls hl36 => ?_)
                refine lv_iload (pc := 134) E.1 E.2.1 dX12_doneBy_134 (lv_at hl36 0 rfl) ?_
                refine lv_if_eq (pc := 136) (tgt := 164) E.1 E.2.1 dX12_doneBy_136 (by decide) (fun _ => ?_) (fun c_37 => absurd (meqE (a := 0) (b := 0) (by decide +kernel) (by decide +kernel) (by omega)) c_37)
                obtain ⟨v_38, ev_38⟩ : ∃ z : Int32, x_11 + Int32.ofInt (1) = z := ⟨_, rfl⟩
                have hv_38 : v_38.toInt = x_11.toInt + (1) := by rw [← ev_38]; exact incE rfl (by decide) (by omega)
                refine lv_iinc (pc := 164) (v := v_38) (lv' := [(7, .int v_38), (8, .int 0), (6, .int x_12), (0, .ref M), (1, .int z_k), (2, .int z_fr), (3, .int z_h), (4, .int z_done), (5, .int x_5)]) E.1 E.2.1 dX12_doneBy_164 hl36 (k := 1) rfl ev_38 (by decide) rfl (fun ls hl39 => ?_)
                refine lv_goto (pc := 167) (tgt := 52) E.1 E.2.1 dX12_doneBy_167 (by decide) ?_
                exact ih_13 v_38 x_12 _ _ _ ⟨(by show 0 ≤ v_38.toInt; omega), (by show v_38.toInt ≤ (mi 44).toInt; omega), hi_12_2, hi_12_3⟩ (by omega) hw20 (lv_sub hl39 [0, 2, 3, 4, 5, 6, 7, 8] rfl)
              · skip
                have hc_35 := eqE (a := v_34.toInt) (b := 0) rfl (by decide +kernel) c_35
                refine lv_aload_n (pc := 98) E.1 E.2.1 dX12_doneBy_98 rfl (lv_at hl15 2 rfl) ?_
                refine lv_aload_n (pc := 99) E.1 E.2.1 dX12_doneBy_99 rfl (lv_at hl15 2 rfl) ?_
                refine x_get (pc := 100) (T := TX12) (N := 70) (ci := 12) (v := .ref (mr 1)) E hw20 inX12 0 1 q_1400 rfl rfl (by decide) rfl rfl dX12_doneBy_100 ?_
                refine lv_iconst (pc := 103) (v := 0) E.1 E.2.1 dX12_doneBy_103 (by decide +kernel) ?_
                refine x_iald (pc := 104) (f := (mf 1)) E hw20 1 rfl (inbE (a := 0) (by decide +kernel) (by omega)) dX12_doneBy_104 ?_
                refine lv_topi (fun v_40 ev_40 => ?_)
                refine lv_iload_n (pc := 105) E.1 E.2.1 dX12_doneBy_105 rfl (lv_at hl15 3 rfl) ?_
                refine lv_iadd (pc := 106) E.1 E.2.1 dX12_doneBy_106 ?_
                refine lv_topi (fun v_41 ev_41 => ?_)
                refine lv_aload_n (pc := 107) E.1 E.2.1 dX12_doneBy_107 rfl (lv_at hl15 2 rfl) ?_
                refine lv_iload (pc := 108) E.1 E.2.1 dX12_doneBy_108 (lv_at hl15 0 rfl) ?_
                refine lv_iconst (pc := 110) (v := 2) E.1 E.2.1 dX12_doneBy_110 (by decide +kernel) ?_
                refine cm_i (pc := 111) hw20 (rn_M (As := [.int x_11, .int 2]) (rest := [.int v_41, .ref M]) E hw20 (s_ofNeed l D cI cJ _ M mr mi mf mg x_11 2 (by show 0 ≤ x_11.toInt ∧ x_11.toInt ≤ 9; omega) (by show 0 ≤ (2 : Int32).toInt ∧ (2 : Int32).toInt ≤ 4; have k_0 : (2 : Int32).toInt = 2 := (by decide +kernel); omega)) (gdV q_1871 q_1873 q_100 q_162 q_1874) hdV_X12_ofNeed ⟨rfl, rfl⟩ ⟨(Nat.le_of_ble_eq_true rfl), (Nat.le_of_ble_eq_true rfl)⟩ ⟨(Nat.le_of_ble_eq_true rfl), (Nat.le_of_ble_eq_true rfl)⟩ 12 rfl rfl rfl rfl hl15.1 rfl (Nat.le_of_ble_eq_true rfl) dX12_doneBy_111) (fun r_43 u_42 H1 locs hp hw44 => ?_)
                generalize H1 = H at hw44 ⊢
                have hw45 : WD D A s.heap (MW cI cJ M mr mi mf mg) H locs := hw44
                refine lv_aload_n (pc := 114) E.1 E.2.1 dX12_doneBy_114 rfl (lv_at hl15 2 rfl) ?_
                refine lv_iload (pc := 115) E.1 E.2.1 dX12_doneBy_115 (lv_at hl15 0 rfl) ?_
                refine lv_iconst (pc := 117) (v := 3) E.1 E.2.1 dX12_doneBy_117 (by decide +kernel) ?_
                refine cm_i (pc := 118) hw45 (rn_M (As := [.int x_11, .int 3]) (rest := [.int r_43, .int v_41, .ref M]) E hw45 (s_ofNeed l D cI cJ _ M mr mi mf mg x_11 3 (by show 0 ≤ x_11.toInt ∧ x_11.toInt ≤ 9; omega) (by show 0 ≤ (3 : Int32).toInt ∧ (3 : Int32).toInt ≤ 4; have k_0 : (3 : Int32).toInt = 3 := (by decide +kernel); omega)) (gdV q_1871 q_1873 q_100 q_162 q_1874) hdV_X12_ofNeed ⟨rfl, rfl⟩ ⟨(Nat.le_of_ble_eq_true rfl), (Nat.le_of_ble_eq_true rfl)⟩ ⟨(Nat.le_of_ble_eq_true rfl), (Nat.le_of_ble_eq_true rfl)⟩ 12 rfl rfl rfl rfl hl15.1 rfl (Nat.le_of_ble_eq_true rfl) dX12_doneBy_118) (fun r_47 u_46 H1 locs hp hw48 => ?_)
                generalize H1 = H at hw48 ⊢
                have hw49 : WD D A s.heap (MW cI cJ M mr mi mf mg) H locs := hw48
                refine cm_i (pc := 121) hw49 (rn_M (As := [.int v_41, .int r_43, .int r_47]) (rest := []) E hw49 (s_isIn l D cI cJ _ M mr mi mf mg v_41 r_43 r_47) (gdV q_1622 q_1624 q_46 q_162 q_1625) hdV_X12_isIn ⟨rfl, rfl⟩ ⟨(Nat.le_of_ble_eq_true rfl), (Nat.le_of_ble_eq_true rfl)⟩ ⟨(Nat.le_of_ble_eq_true rfl), (Nat.le_of_ble_eq_true rfl)⟩ 12 rfl rfl rfl rfl hl15.1 rfl (Nat.le_of_ble_eq_true rfl) dX12_doneBy_121) (fun r_51 u_50 H1 locs hp hw52 => ?_)
                generalize H1 = H at hw52 ⊢
                have hw53 : WD D A s.heap (MW cI cJ M mr mi mf mg) H locs := hw52
                have hp_54 := hp
                rcases hp_54 with ⟨rfl, ha_55⟩ | ⟨rfl, ha_56⟩ | ⟨rfl, ha_57, ha_58⟩
                · skip
                  have ha_55 : v_41.toInt < r_43.toInt := ha_55
                  refine lv_if_eq (pc := 124) (tgt := 131) E.1 E.2.1 dX12_doneBy_124 (by decide) (fun _ => ?_) (fun c_59 => absurd (meqE (a := 0) (b := 0) (by decide +kernel) (by decide +kernel) (by omega)) c_59)
                  refine lv_iconst (pc := 131) (v := 0) E.1 E.2.1 dX12_doneBy_131 (by decide +kernel) ?_
                  refine lv_istore (pc := 132) (lv' := [(8, .int 0), (7, .int x_11), (6, .int x_12), (0, .ref M), (1, .int z_k), (2, .int z_fr), (3, .int z_h), (4, .int z_done), (5, .int x_5)]) E.1 E.2.1 dX12_doneBy_132 hl15 (by decide) rfl (fun ls hl60 => ?_)
                  refine lv_iload (pc := 134) E.1 E.2.1 dX12_doneBy_134 (lv_at hl60 0 rfl) ?_
                  refine lv_if_eq (pc := 136) (tgt := 164) E.1 E.2.1 dX12_doneBy_136 (by decide) (fun _ => ?_) (fun c_61 => absurd (meqE (a := 0) (b := 0) (by decide +kernel) (by decide +kernel) (by omega)) c_61)
                  obtain ⟨v_62, ev_62⟩ : ∃ z : Int32, x_11 + Int32.ofInt (1) = z := ⟨_, rfl⟩
                  have hv_62 : v_62.toInt = x_11.toInt + (1) := by rw [← ev_62]; exact incE rfl (by decide) (by omega)
                  refine lv_iinc (pc := 164) (v := v_62) (lv' := [(7, .int v_62), (8, .int 0), (6, .int x_12), (0, .ref M), (1, .int z_k), (2, .int z_fr), (3, .int z_h), (4, .int z_done), (5, .int x_5)]) E.1 E.2.1 dX12_doneBy_164 hl60 (k := 1) rfl ev_62 (by decide) rfl (fun ls hl63 => ?_)
                  refine lv_goto (pc := 167) (tgt := 52) E.1 E.2.1 dX12_doneBy_167 (by decide) ?_
                  exact ih_13 v_62 x_12 _ _ _ ⟨(by show 0 ≤ v_62.toInt; omega), (by show v_62.toInt ≤ (mi 44).toInt; omega), hi_12_2, hi_12_3⟩ (by omega) hw53 (lv_sub hl63 [0, 2, 3, 4, 5, 6, 7, 8] rfl)
                · skip
                  have ha_56 : r_47.toInt < v_41.toInt := ha_56
                  refine lv_if_eq (pc := 124) (tgt := 131) E.1 E.2.1 dX12_doneBy_124 (by decide) (fun _ => ?_) (fun c_64 => absurd (meqE (a := 0) (b := 0) (by decide +kernel) (by decide +kernel) (by omega)) c_64)
                  refine lv_iconst (pc := 131) (v := 0) E.1 E.2.1 dX12_doneBy_131 (by decide +kernel) ?_
                  refine lv_istore (pc := 132) (lv' := [(8, .int 0), (7, .int x_11), (6, .int x_12), (0, .ref M), (1, .int z_k), (2, .int z_fr), (3, .int z_h), (4, .int z_done), (5, .int x_5)]) E.1 E.2.1 dX12_doneBy_132 hl15 (by decide) rfl (fun ls hl65 => ?_)
                  refine lv_iload (pc := 134) E.1 E.2.1 dX12_doneBy_134 (lv_at hl65 0 rfl) ?_
                  refine lv_if_eq (pc := 136) (tgt := 164) E.1 E.2.1 dX12_doneBy_136 (by decide) (fun _ => ?_) (fun c_66 => absurd (meqE (a := 0) (b := 0) (by decide +kernel) (by decide +kernel) (by omega)) c_66)
                  obtain ⟨v_67, ev_67⟩ : ∃ z : Int32, x_11 + Int32.ofInt (1) = z := ⟨_, rfl⟩
                  have hv_67 : v_67.toInt = x_11.toInt + (1) := by rw [← ev_67]; exact incE rfl (by decide) (by omega)
                  refine lv_iinc (pc := 164) (v := v_67) (lv' := [(7, .int v_67), (8, .int 0), (6, .int x_12), (0, .ref M), (1, .int z_k), (2, .int z_fr), (3, .int z_h), (4, .int z_done), (5, .int x_5)]) E.1 E.2.1 dX12_doneBy_164 hl65 (k := 1) rfl ev_67 (by decide) rfl (fun ls hl68 => ?_)
                  refine lv_goto (pc := 167) (tgt := 52) E.1 E.2.1 dX12_doneBy_167 (by decide) ?_
                  exact ih_13 v_67 x_12 _ _ _ ⟨(by show 0 ≤ v_67.toInt; omega), (by show v_67.toInt ≤ (mi 44).toInt; omega), hi_12_2, hi_12_3⟩ (by omega) hw53 (lv_sub hl68 [0, 2, 3, 4, 5, 6, 7, 8] rfl)
                · skip
                  have ha_57 : r_43.toInt ≤ v_41.toInt := ha_57
                  have ha_58 : v_41.toInt ≤ r_47.toInt := ha_58
                  refine lv_if_eq (pc := 124) (tgt := 131) E.1 E.2.1 dX12_doneBy_124 (by decide) (fun c_69 => absurd c_69 (mneE (a := 1) (b := 0) (by decide +kernel) (by decide +kernel) (by omega))) (fun _ => ?_)
                  refine lv_iconst (pc := 127) (v := 1) E.1 E.2.1 dX12_doneBy_127 (by decide +kernel) ?_
                  refine lv_goto (pc := 128) (tgt := 132) E.1 E.2.1 dX12_doneBy_128 (by decide) ?_
                  refine lv_istore (pc := 132) (lv' := [(8, .int 1), (7, .int x_11), (6, .int x_12), (0, .ref M), (1, .int z_k), (2, .int z_fr), (3, .int z_h), (4, .int z_done), (5, .int x_5)]) E.1 E.2.1 dX12_doneBy_132 hl15 (by decide) rfl (fun ls hl70 => ?_)
                  refine lv_iload (pc := 134) E.1 E.2.1 dX12_doneBy_134 (lv_at hl70 0 rfl) ?_
                  refine lv_if_eq (pc := 136) (tgt := 164) E.1 E.2.1 dX12_doneBy_136 (by decide) (fun c_71 => absurd c_71 (mneE (a := 1) (b := 0) (by decide +kernel) (by decide +kernel) (by omega))) (fun _ => ?_)
                  refine lv_aload_n (pc := 139) E.1 E.2.1 dX12_doneBy_139 rfl (lv_at hl70 3 rfl) ?_
                  refine lv_iload (pc := 140) E.1 E.2.1 dX12_doneBy_140 (lv_at hl70 1 rfl) ?_
                  refine lv_iconst (pc := 142) (v := 0) E.1 E.2.1 dX12_doneBy_142 (by decide +kernel) ?_
                  refine cm_i (pc := 143) hw53 (rn_M (As := [.int x_11, .int 0]) (rest := []) E hw53 (s_ofNeed l D cI cJ _ M mr mi mf mg x_11 0 (by show 0 ≤ x_11.toInt ∧ x_11.toInt ≤ 9; omega) (by show 0 ≤ (0 : Int32).toInt ∧ (0 : Int32).toInt ≤ 4; have k_0 : (0 : Int32).toInt = 0 := (by decide +kernel); omega)) (gdV q_1871 q_1873 q_100 q_162 q_1874) hdV_X12_ofNeed ⟨rfl, rfl⟩ ⟨(Nat.le_of_ble_eq_true rfl), (Nat.le_of_ble_eq_true rfl)⟩ ⟨(Nat.le_of_ble_eq_true rfl), (Nat.le_of_ble_eq_true rfl)⟩ 12 rfl rfl rfl rfl hl70.1 rfl (Nat.le_of_ble_eq_true rfl) dX12_doneBy_143) (fun r_73 u_72 H1 locs hp hw74 => ?_)
                  generalize H1 = H at hw74 ⊢
                  have hw75 : WD D A s.heap (MW cI cJ M mr mi mf mg) H locs := hw74
                  refine lv_iconst (pc := 146) (v := 3) E.1 E.2.1 dX12_doneBy_146 (by decide +kernel) ?_
                  refine lv_icmp_ne (pc := 147) (tgt := 155) E.1 E.2.1 dX12_doneBy_147 (by decide) (fun c_76 => ?_) (fun c_76 => ?_)
                  · skip
                    have hc_76 := neE (a := r_73.toInt) (b := 3) rfl (by decide +kernel) c_76
                    refine lv_iload (pc := 155) E.1 E.2.1 dX12_doneBy_155 (lv_at hl70 2 rfl) ?_
                    refine lv_iconst (pc := 157) (v := 1) E.1 E.2.1 dX12_doneBy_157 (by decide +kernel) ?_
                    refine lv_iload (pc := 158) E.1 E.2.1 dX12_doneBy_158 (lv_at hl70 1 rfl) ?_
                    refine lv_ishl (pc := 160) E.1 E.2.1 dX12_doneBy_160 ?_
                    refine lv_topi (fun v_77 ev_77 => ?_)
                    have hb1v_77 : 1 ≤ v_77.toInt ∧ v_77.toInt ≤ 512 := by rw [ev_77]; exact shl9 (by omega)
                    refine lv_ior (pc := 161) E.1 E.2.1 dX12_doneBy_161 ?_
                    refine lv_topi (fun v_78 ev_78 => ?_)
                    have hb1v_78 : 0 ≤ v_78.toInt ∧ v_78.toInt ≤ 1023 := by rw [ev_78]; exact or10 (by omega) (by omega)
                    refine lv_istore (pc := 162) (lv' := [(6, .int v_78), (8, .int 1), (7, .int x_11), (0, .ref M), (1, .int z_k), (2, .int z_fr), (3, .int z_h), (4, .int z_done), (5, .int x_5)]) E.1 E.2.1 dX12_doneBy_162 hl70 (by decide) rfl (fun ls hl79 => ?_)
                    obtain ⟨v_80, ev_80⟩ : ∃ z : Int32, x_11 + Int32.ofInt (1) = z := ⟨_, rfl⟩
                    have hv_80 : v_80.toInt = x_11.toInt + (1) := by rw [← ev_80]; exact incE rfl (by decide) (by omega)
                    refine lv_iinc (pc := 164) (v := v_80) (lv' := [(7, .int v_80), (6, .int v_78), (8, .int 1), (0, .ref M), (1, .int z_k), (2, .int z_fr), (3, .int z_h), (4, .int z_done), (5, .int x_5)]) E.1 E.2.1 dX12_doneBy_164 hl79 (k := 2) rfl ev_80 (by decide) rfl (fun ls hl81 => ?_)
                    refine lv_goto (pc := 167) (tgt := 52) E.1 E.2.1 dX12_doneBy_167 (by decide) ?_
                    exact ih_13 v_80 v_78 _ _ _ ⟨(by show 0 ≤ v_80.toInt; omega), (by show v_80.toInt ≤ (mi 44).toInt; omega), (by show 0 ≤ v_78.toInt; omega), (by show v_78.toInt ≤ 1023; omega)⟩ (by omega) hw75 (lv_sub hl81 [0, 1, 3, 4, 5, 6, 7, 8] rfl)
                  · skip
                    have hc_76 := eqE (a := r_73.toInt) (b := 3) rfl (by decide +kernel) c_76
                    refine lv_iload (pc := 150) E.1 E.2.1 dX12_doneBy_150 (lv_at hl70 8 rfl) ?_
                    refine lv_if_eq (pc := 152) (tgt := 164) E.1 E.2.1 dX12_doneBy_152 (by decide) (fun c_82 => ?_) (fun c_82 => ?_)
                    · skip
                      have hc_82 := eqE (a := x_5.toInt) (b := 0) rfl (by decide +kernel) c_82
                      obtain ⟨v_83, ev_83⟩ : ∃ z : Int32, x_11 + Int32.ofInt (1) = z := ⟨_, rfl⟩
                      have hv_83 : v_83.toInt = x_11.toInt + (1) := by rw [← ev_83]; exact incE rfl (by decide) (by omega)
                      refine lv_iinc (pc := 164) (v := v_83) (lv' := [(7, .int v_83), (8, .int 1), (6, .int x_12), (0, .ref M), (1, .int z_k), (2, .int z_fr), (3, .int z_h), (4, .int z_done), (5, .int x_5)]) E.1 E.2.1 dX12_doneBy_164 hl70 (k := 1) rfl ev_83 (by decide) rfl (fun ls hl84 => ?_)
                      refine lv_goto (pc := 167) (tgt := 52) E.1 E.2.1 dX12_doneBy_167 (by decide) ?_
                      exact ih_13 v_83 x_12 _ _ _ ⟨(by show 0 ≤ v_83.toInt; omega), (by show v_83.toInt ≤ (mi 44).toInt; omega), hi_12_2, hi_12_3⟩ (by omega) hw75 (lv_sub hl84 [0, 2, 3, 4, 5, 6, 7, 8] rfl)
                    · skip
                      have hc_82 := neE (a := x_5.toInt) (b := 0) rfl (by decide +kernel) c_82
                      refine lv_iload (pc := 155) E.1 E.2.1 dX12_doneBy_155 (lv_at hl70 2 rfl) ?_
                      refine lv_iconst (pc := 157) (v := 1) E.1 E.2.1 dX12_doneBy_157 (by decide +kernel) ?_
                      refine lv_iload (pc := 158) E.1 E.2.1 dX12_doneBy_158 (lv_at hl70 1 rfl) ?_
                      refine lv_ishl (pc := 160) E.1 E.2.1 dX12_doneBy_160 ?_
                      refine lv_topi (fun v_85 ev_85 => ?_)
                      have hb1v_85 : 1 ≤ v_85.toInt ∧ v_85.toInt ≤ 512 := by rw [ev_85]; exact shl9 (by omega)
                      refine lv_ior (pc := 161) E.1 E.2.1 dX12_doneBy_161 ?_
                      refine lv_topi (fun v_86 ev_86 => ?_)
                      have hb1v_86 : 0 ≤ v_86.toInt ∧ v_86.toInt ≤ 1023 := by rw [ev_86]; exact or10 (by omega) (by omega)
                      refine lv_istore (pc := 162) (lv' := [(6, .int v_86), (8, .int 1), (7, .int x_11), (0, .ref M), (1, .int z_k), (2, .int z_fr), (3, .int z_h), (4, .int z_done), (5, .int x_5)]) E.1 E.2.1 dX12_doneBy_162 hl70 (by decide) rfl (fun ls hl87 => ?_)
                      obtain ⟨v_88, ev_88⟩ : ∃ z : Int32, x_11 + Int32.ofInt (1) = z := ⟨_, rfl⟩
                      have hv_88 : v_88.toInt = x_11.toInt + (1) := by rw [← ev_88]; exact incE rfl (by decide) (by omega)
                      refine lv_iinc (pc := 164) (v := v_88) (lv' := [(7, .int v_88), (6, .int v_86), (8, .int 1), (0, .ref M), (1, .int z_k), (2, .int z_fr), (3, .int z_h), (4, .int z_done), (5, .int x_5)]) E.1 E.2.1 dX12_doneBy_164 hl87 (k := 2) rfl ev_88 (by decide) rfl (fun ls hl89 => ?_)
                      refine lv_goto (pc := 167) (tgt := 52) E.1 E.2.1 dX12_doneBy_167 (by decide) ?_
                      exact ih_13 v_88 v_86 _ _ _ ⟨(by show 0 ≤ v_88.toInt; omega), (by show v_88.toInt ≤ (mi 44).toInt; omega), (by show 0 ≤ v_86.toInt; omega), (by show v_86.toInt ≤ 1023; omega)⟩ (by omega) hw75 (lv_sub hl89 [0, 1, 3, 4, 5, 6, 7, 8] rfl)
    exact loop_10 (Int.toNat ((mi 44).toInt - 0) + 1) 0 z_done _ _ _ ⟨(by show 0 ≤ (0 : Int32).toInt; have k_0 : (0 : Int32).toInt = 0 := (by decide +kernel); omega), (by show (0 : Int32).toInt ≤ (mi 44).toInt; have k_0 : (0 : Int32).toInt = 0 := (by decide +kernel); omega), h2, h3⟩ (by have k_0 : (0 : Int32).toInt = 0 := (by decide +kernel); omega) hw6 (lv_sub hl9 [0, 1, 2, 3, 4, 5, 6, 7] rfl)
  refine lv_iload_n (pc := 0) E.1 E.2.1 dX12_doneBy_0 rfl (lv_at hl3 1 rfl) ?_
  refine lv_if_ne (pc := 1) (tgt := 33) E.1 E.2.1 dX12_doneBy_1 (by decide) (fun c_90 => ?_) (fun c_90 => ?_)
  · skip
    have hc_90 := neE (a := z_k.toInt) (b := 0) rfl (by decide +kernel) c_90
    refine lv_iload_n (pc := 33) E.1 E.2.1 dX12_doneBy_33 rfl (lv_at hl3 2 rfl) ?_
    refine lv_iload_n (pc := 34) E.1 E.2.1 dX12_doneBy_34 rfl (lv_at hl3 3 rfl) ?_
    refine lv_icmp_ne (pc := 35) (tgt := 42) E.1 E.2.1 dX12_doneBy_35 (by decide) (fun c_91 => ?_) (fun c_91 => ?_)
    · skip
      have hc_91 := neE (a := z_fr.toInt) (b := z_h.toInt) rfl rfl c_91
      refine lv_iconst (pc := 42) (v := 0) E.1 E.2.1 dX12_doneBy_42 (by decide +kernel) ?_
      refine lv_istore (pc := 43) (lv' := [(5, .int 0), (0, .ref M), (1, .int z_k), (2, .int z_fr), (3, .int z_h), (4, .int z_done)]) E.1 E.2.1 dX12_doneBy_43 hl3 (by decide) rfl (fun ls hl92 => ?_)
      exact join_4 0 _ _ _ trivial hw1 (lv_sub hl92 [1, 2, 3, 4, 5, 0] rfl)
    · skip
      have hc_91 := eqE (a := z_fr.toInt) (b := z_h.toInt) rfl rfl c_91
      refine lv_iconst (pc := 38) (v := 1) E.1 E.2.1 dX12_doneBy_38 (by decide +kernel) ?_
      refine lv_goto (pc := 39) (tgt := 43) E.1 E.2.1 dX12_doneBy_39 (by decide) ?_
      refine lv_istore (pc := 43) (lv' := [(5, .int 1), (0, .ref M), (1, .int z_k), (2, .int z_fr), (3, .int z_h), (4, .int z_done)]) E.1 E.2.1 dX12_doneBy_43 hl3 (by decide) rfl (fun ls hl93 => ?_)
      exact join_4 1 _ _ _ trivial hw1 (lv_sub hl93 [1, 2, 3, 4, 5, 0] rfl)
  · skip
    have hc_90 := eqE (a := z_k.toInt) (b := 0) rfl (by decide +kernel) c_90
    refine lv_aload_n (pc := 4) E.1 E.2.1 dX12_doneBy_4 rfl (lv_at hl3 0 rfl) ?_
    refine x_get (pc := 5) (T := TX12) (N := 70) (ci := 12) (v := .ref (mr 1)) E hw1 inX12 0 1 q_1400 rfl rfl (by decide) rfl rfl dX12_doneBy_5 ?_
    refine lv_bipush (pc := 8) (v := 36) E.1 E.2.1 dX12_doneBy_8 (by decide +kernel) ?_
    refine lv_iload_n (pc := 10) E.1 E.2.1 dX12_doneBy_10 rfl (lv_at hl3 3 rfl) ?_
    refine lv_iadd (pc := 11) E.1 E.2.1 dX12_doneBy_11 ?_
    refine lv_topi (fun v_94 ev_94 => ?_)
    have hv_94 : v_94.toInt = 36 + z_h.toInt := by rw [ev_94]; exact addE (by decide +kernel) rfl (by omega)
    refine x_iald (pc := 12) (f := (mf 1)) E hw1 1 rfl (inbE (a := v_94.toInt) rfl (by omega)) dX12_doneBy_12 ?_
    refine lv_topi (fun v_95 ev_95 => ?_)
    refine lv_if_le (pc := 13) (tgt := 29) E.1 E.2.1 dX12_doneBy_13 (by decide) (fun c_96 => ?_) (fun c_96 => ?_)
    · skip
      have hc_96 := leE (a := v_95.toInt) (b := 0) rfl (by decide +kernel) c_96
      refine lv_iconst (pc := 29) (v := 0) E.1 E.2.1 dX12_doneBy_29 (by decide +kernel) ?_
      refine lv_goto (pc := 30) (tgt := 43) E.1 E.2.1 dX12_doneBy_30 (by decide) ?_
      refine lv_istore (pc := 43) (lv' := [(5, .int 0), (0, .ref M), (1, .int z_k), (2, .int z_fr), (3, .int z_h), (4, .int z_done)]) E.1 E.2.1 dX12_doneBy_43 hl3 (by decide) rfl (fun ls hl97 => ?_)
      exact join_4 0 _ _ _ trivial hw1 (lv_sub hl97 [1, 2, 3, 4, 5, 0] rfl)
    · skip
      have hc_96 := nleE (a := v_95.toInt) (b := 0) rfl (by decide +kernel) c_96
      refine lv_aload_n (pc := 16) E.1 E.2.1 dX12_doneBy_16 rfl (lv_at hl3 0 rfl) ?_
      refine lv_iload_n (pc := 17) E.1 E.2.1 dX12_doneBy_17 rfl (lv_at hl3 3 rfl) ?_
      refine cm_i (pc := 18) hw1 (rn_M (As := [.int z_h]) (rest := []) E hw1 (s_sinceLast l D cI cJ _ M mr mi mf mg z_h ⟨h0, h1⟩) (gdV q_1863 q_1865 q_98 q_162 q_1866) hdV_X12_sinceLast ⟨rfl, rfl⟩ ⟨(Nat.le_of_ble_eq_true rfl), (Nat.le_of_ble_eq_true rfl)⟩ ⟨(Nat.le_of_ble_eq_true rfl), (Nat.le_of_ble_eq_true rfl)⟩ 12 rfl rfl rfl rfl hl3.1 rfl (Nat.le_of_ble_eq_true rfl) dX12_doneBy_18) (fun r_99 u_98 H1 locs hp hw100 => ?_)
      generalize H1 = H at hw100 ⊢
      have hw101 : WD D A s.heap (MW cI cJ M mr mi mf mg) H locs := hw100
      refine lv_iconst (pc := 21) (v := 1) E.1 E.2.1 dX12_doneBy_21 (by decide +kernel) ?_
      refine lv_icmp_ne (pc := 22) (tgt := 29) E.1 E.2.1 dX12_doneBy_22 (by decide) (fun c_102 => ?_) (fun c_102 => ?_)
      · skip
        have hc_102 := neE (a := r_99.toInt) (b := 1) rfl (by decide +kernel) c_102
        refine lv_iconst (pc := 29) (v := 0) E.1 E.2.1 dX12_doneBy_29 (by decide +kernel) ?_
        refine lv_goto (pc := 30) (tgt := 43) E.1 E.2.1 dX12_doneBy_30 (by decide) ?_
        refine lv_istore (pc := 43) (lv' := [(5, .int 0), (0, .ref M), (1, .int z_k), (2, .int z_fr), (3, .int z_h), (4, .int z_done)]) E.1 E.2.1 dX12_doneBy_43 hl3 (by decide) rfl (fun ls hl103 => ?_)
        exact join_4 0 _ _ _ trivial hw101 (lv_sub hl103 [1, 2, 3, 4, 5, 0] rfl)
      · skip
        have hc_102 := eqE (a := r_99.toInt) (b := 1) rfl (by decide +kernel) c_102
        refine lv_iconst (pc := 25) (v := 1) E.1 E.2.1 dX12_doneBy_25 (by decide +kernel) ?_
        refine lv_goto (pc := 26) (tgt := 43) E.1 E.2.1 dX12_doneBy_26 (by decide) ?_
        refine lv_istore (pc := 43) (lv' := [(5, .int 1), (0, .ref M), (1, .int z_k), (2, .int z_fr), (3, .int z_h), (4, .int z_done)]) E.1 E.2.1 dX12_doneBy_43 hl3 (by decide) rfl (fun ls hl104 => ?_)
        exact join_4 1 _ _ _ trivial hw101 (lv_sub hl104 [1, 2, 3, 4, 5, 0] rfl)

set_option maxHeartbeats 4000000 in
set_option maxRecDepth 100000 in
theorem s_byStep (l : Launch) (D : va_G) (cI cJ : ClassId) (sz M : Nat) (mr : Nat → Nat) (mi : Nat → Int32) (mf : Nat → Nat → Int32) (mg : Nat → Nat → Int64) (z_k : Int32) (z_fr : Int32) (z_h : Int32) (z_done : Int32) (h0 : 0 ≤ z_k.toInt) (h1 : z_k.toInt ≤ 9) (h2 : 0 ≤ z_fr.toInt) (h3 : z_fr.toInt ≤ 9) (h4 : 0 ≤ z_h.toInt) (h5 : z_h.toInt ≤ 9) (h6 : 0 ≤ z_done.toInt) (h7 : z_done.toInt ≤ 1023) (h8 : 0 ≤ (mi 44).toInt ∧ (mi 44).toInt ≤ 10) : Met l yX12_byStep (Cond.code yX12_byStep cX12_byStep 6 (some .int) :: GW) ({ frames := 3, cells := 0, slots := 0, locals := 91 } : Room) (va_Pc [.ref M, .int z_k, .int z_fr, .int z_h, .int z_done] (PW D cI cJ sz (MW cI cJ M mr mi mf mg) xT)) (va_Qi (fun (r : Int32) (u : Unit) => True) (fun u => QW D cI cJ (va_A (MW cI cJ M mr mi mf mg) sz) ((fun (u : Unit) => (MW cI cJ M mr mi mf mg)) u)) (va_A (MW cI cJ M mr mi mf mg) sz)) 0 0 (va_A (MW cI cJ M mr mi mf mg) sz) := by
  refine mk_met (y := yX12_byStep) (bytes := cX12_byStep) (maxL := 6) (avs := [.ref M, .int z_k, .int z_fr, .int z_h, .int z_done]) (WS := (MW cI cJ M mr mi mf mg)) (Qf := fun A => va_Qi (fun (r : Int32) (u : Unit) => True) (fun u => QW D cI cJ A ((fun (u : Unit) => (MW cI cJ M mr mi mf mg)) u)) A) (by decide) (Nat.le_of_ble_eq_true rfl) ?_
  intro p e s m below meth c A ls E hr hlk hnm hX hw1 hl2
  have hl3 : lv_has ls 6 [(0, .ref M), (1, .int z_k), (2, .int z_fr), (3, .int z_h), (4, .int z_done)] := hl2
  refine lv_aload_n (pc := 0) E.1 E.2.1 dX12_byStep_0 rfl (lv_at hl3 0 rfl) ?_
  refine lv_iload_n (pc := 1) E.1 E.2.1 dX12_byStep_1 rfl (lv_at hl3 1 rfl) ?_
  refine lv_iload_n (pc := 2) E.1 E.2.1 dX12_byStep_2 rfl (lv_at hl3 2 rfl) ?_
  refine lv_iload_n (pc := 3) E.1 E.2.1 dX12_byStep_3 rfl (lv_at hl3 3 rfl) ?_
  refine lv_iload (pc := 4) E.1 E.2.1 dX12_byStep_4 (lv_at hl3 4 rfl) ?_
  refine cm_i (pc := 6) hw1 (rn_M (As := [.int z_k, .int z_fr, .int z_h, .int z_done]) (rest := []) E hw1 (s_doneBy l D cI cJ _ M mr mi mf mg z_k z_fr z_h z_done h4 h5 h6 h7 h8) (gdV q_2006 q_2008 q_128 q_162 q_2009) hdV_X12_doneBy ⟨rfl, rfl⟩ ⟨(Nat.le_of_ble_eq_true rfl), (Nat.le_of_ble_eq_true rfl)⟩ ⟨(Nat.le_of_ble_eq_true rfl), (Nat.le_of_ble_eq_true rfl)⟩ 12 rfl rfl rfl rfl hl3.1 rfl (Nat.le_of_ble_eq_true rfl) dX12_byStep_6) (fun r_5 u_4 H1 locs hp hw6 => ?_)
  generalize H1 = H at hw6 ⊢
  have hw7 : WD D A s.heap (MW cI cJ M mr mi mf mg) H locs := hw6
  obtain ⟨hp_8, hp_9⟩ := hp
  have hp_8 : 0 ≤ r_5.toInt := hp_8
  have hp_9 : r_5.toInt ≤ 1023 := hp_9
  refine lv_istore (pc := 9) (lv' := [(5, .int r_5), (0, .ref M), (1, .int z_k), (2, .int z_fr), (3, .int z_h), (4, .int z_done)]) E.1 E.2.1 dX12_byStep_9 hl3 (by decide) rfl (fun ls hl10 => ?_)
  refine lv_sipush (pc := 11) (v := 1000) E.1 E.2.1 dX12_byStep_11 (by decide +kernel) ?_
  refine lv_aload_n (pc := 14) E.1 E.2.1 dX12_byStep_14 rfl (lv_at hl10 1 rfl) ?_
  refine lv_iload (pc := 15) E.1 E.2.1 dX12_byStep_15 (lv_at hl10 0 rfl) ?_
  refine lv_iload (pc := 17) E.1 E.2.1 dX12_byStep_17 (lv_at hl10 5 rfl) ?_
  refine lv_iconst (pc := 19) (v := (-1)) E.1 E.2.1 dX12_byStep_19 (by decide +kernel) ?_
  refine lv_ixor (pc := 20) E.1 E.2.1 dX12_byStep_20 ?_
  refine lv_topi (fun v_11 ev_11 => ?_)
  refine lv_iand (pc := 21) E.1 E.2.1 dX12_byStep_21 ?_
  refine lv_topi (fun v_12 ev_12 => ?_)
  have hb1v_12 : 0 ≤ v_12.toInt ∧ v_12.toInt ≤ r_5.toInt := by rw [ev_12]; exact and10 (by omega)
  refine cm_i (pc := 22) hw7 (rn_M (As := [.int v_12]) (rest := [.int 1000]) E hw7 (s_worthOf l D cI cJ _ M mr mi mf mg v_12 h8) (gdV q_2010 q_2012 q_129 q_162 q_2013) hdV_X12_worthOf ⟨rfl, rfl⟩ ⟨(Nat.le_of_ble_eq_true rfl), (Nat.le_of_ble_eq_true rfl)⟩ ⟨(Nat.le_of_ble_eq_true rfl), (Nat.le_of_ble_eq_true rfl)⟩ 12 rfl rfl rfl rfl hl10.1 rfl (Nat.le_of_ble_eq_true rfl) dX12_byStep_22) (fun r_14 u_13 H1 locs hp hw15 => ?_)
  generalize H1 = H at hw15 ⊢
  have hw16 : WD D A s.heap (MW cI cJ M mr mi mf mg) H locs := hw15
  refine lv_imul (pc := 25) E.1 E.2.1 dX12_byStep_25 ?_
  refine lv_topi (fun v_17 ev_17 => ?_)
  refine lv_aload_n (pc := 26) E.1 E.2.1 dX12_byStep_26 rfl (lv_at hl10 1 rfl) ?_
  refine x_get (pc := 27) (T := TX12) (N := 70) (ci := 12) (v := .ref (mr 55)) E hw16 inX12 0 55 q_1454 rfl rfl (by decide) rfl rfl dX12_byStep_27 ?_
  refine lv_bipush (pc := 30) (v := 10) E.1 E.2.1 dX12_byStep_30 (by decide +kernel) ?_
  refine lv_iload_n (pc := 32) E.1 E.2.1 dX12_byStep_32 rfl (lv_at hl10 3 rfl) ?_
  refine lv_imul (pc := 33) E.1 E.2.1 dX12_byStep_33 ?_
  refine lv_topi (fun v_18 ev_18 => ?_)
  have hv_18 : v_18.toInt = 10 * z_fr.toInt := by rw [ev_18]; exact mulE (by decide +kernel) rfl (by omega)
  refine lv_iload_n (pc := 34) E.1 E.2.1 dX12_byStep_34 rfl (lv_at hl10 4 rfl) ?_
  refine lv_iadd (pc := 35) E.1 E.2.1 dX12_byStep_35 ?_
  refine lv_topi (fun v_19 ev_19 => ?_)
  have hv_19 : v_19.toInt = v_18.toInt + z_h.toInt := by rw [ev_19]; exact addE rfl rfl (by omega)
  refine x_iald (pc := 36) (f := (mf 55)) E hw16 30 rfl (inbE (a := v_19.toInt) rfl (by omega)) dX12_byStep_36 ?_
  refine lv_topi (fun v_20 ev_20 => ?_)
  refine lv_isub (pc := 37) E.1 E.2.1 dX12_byStep_37 ?_
  refine lv_topi (fun v_21 ev_21 => ?_)
  refine lv_aload_n (pc := 38) E.1 E.2.1 dX12_byStep_38 rfl (lv_at hl10 1 rfl) ?_
  refine x_get (pc := 39) (T := TX12) (N := 70) (ci := 12) (v := .ref (mr 59)) E hw16 inX12 0 59 q_1458 rfl rfl (by decide) rfl rfl dX12_byStep_39 ?_
  refine lv_aload_n (pc := 42) E.1 E.2.1 dX12_byStep_42 rfl (lv_at hl10 1 rfl) ?_
  refine lv_iload_n (pc := 43) E.1 E.2.1 dX12_byStep_43 rfl (lv_at hl10 2 rfl) ?_
  refine lv_iconst (pc := 44) (v := 1) E.1 E.2.1 dX12_byStep_44 (by decide +kernel) ?_
  refine lv_iadd (pc := 45) E.1 E.2.1 dX12_byStep_45 ?_
  refine lv_topi (fun v_22 ev_22 => ?_)
  have hv_22 : v_22.toInt = z_k.toInt + 1 := by rw [ev_22]; exact addE rfl (by decide +kernel) (by omega)
  refine lv_iload_n (pc := 46) E.1 E.2.1 dX12_byStep_46 rfl (lv_at hl10 4 rfl) ?_
  refine lv_iload (pc := 47) E.1 E.2.1 dX12_byStep_47 (lv_at hl10 0 rfl) ?_
  refine cm_i (pc := 49) hw16 (rn_M (As := [.int v_22, .int z_h, .int r_5]) (rest := [.ref (mr 59), .int v_21]) E hw16 (s_planAt l D cI cJ _ M mr mi mf mg v_22 z_h r_5 (by show 0 ≤ v_22.toInt; omega) (by show v_22.toInt ≤ 10; omega) h4 h5 hp_8 hp_9) (gdV q_1994 q_1996 q_125 q_162 q_1997) hdV_X12_planAt ⟨rfl, rfl⟩ ⟨(Nat.le_of_ble_eq_true rfl), (Nat.le_of_ble_eq_true rfl)⟩ ⟨(Nat.le_of_ble_eq_true rfl), (Nat.le_of_ble_eq_true rfl)⟩ 12 rfl rfl rfl rfl hl10.1 rfl (Nat.le_of_ble_eq_true rfl) dX12_byStep_49) (fun r_24 u_23 H1 locs hp hw25 => ?_)
  generalize H1 = H at hw25 ⊢
  have hw26 : WD D A s.heap (MW cI cJ M mr mi mf mg) H locs := hw25
  have hp_27 := hp
  have hp_27 : r_24.toInt = 10240 * v_22.toInt + 1024 * z_h.toInt + r_5.toInt := hp_27
  refine x_iald (pc := 52) (f := (mf 59)) E hw26 31 rfl (inbE (a := r_24.toInt) rfl (by omega)) dX12_byStep_52 ?_
  refine lv_topi (fun v_28 ev_28 => ?_)
  refine lv_iadd (pc := 53) E.1 E.2.1 dX12_byStep_53 ?_
  refine lv_topi (fun v_29 ev_29 => ?_)
  exact em_i (w1 := (fun (u : Unit) => (MW cI cJ M mr mi mf mg))) E hr hlk () hw26 trivial (Nat.le_of_ble_eq_true rfl) (Nat.le_of_ble_eq_true rfl) dX12_byStep_54

set_option maxHeartbeats 4000000 in
set_option maxRecDepth 100000 in
theorem s_bestStep (l : Launch) (D : va_G) (cI cJ : ClassId) (sz M : Nat) (mr : Nat → Nat) (mi : Nat → Int32) (mf : Nat → Nat → Int32) (mg : Nat → Nat → Int64) (z_k : Int32) (z_fr : Int32) (z_done : Int32) (h0 : 0 ≤ z_k.toInt) (h1 : z_k.toInt ≤ 9) (h2 : 0 ≤ z_fr.toInt) (h3 : z_fr.toInt + 1 ≤ (mi 6).toInt) (h4 : (mi 6).toInt ≤ 10) (h5 : 0 ≤ z_done.toInt) (h6 : z_done.toInt ≤ 1023) (h7 : 0 ≤ (mi 44).toInt ∧ (mi 44).toInt ≤ 10) : Met l yX12_bestStep (Cond.code yX12_bestStep cX12_bestStep 6 (some .int) :: GW) ({ frames := 4, cells := 0, slots := 0, locals := 116 } : Room) (va_Pc [.ref M, .int z_k, .int z_fr, .int z_done] (PW D cI cJ sz (MW cI cJ M mr mi mf mg) xT)) (va_Qi (fun (r : Int32) (u : Unit) => (0 ≤ r.toInt) ∧ (r.toInt + 1 ≤ (mi 6).toInt)) (fun u => QW D cI cJ (va_A (MW cI cJ M mr mi mf mg) sz) ((fun (u : Unit) => (MW cI cJ M mr mi mf mg)) u)) (va_A (MW cI cJ M mr mi mf mg) sz)) 0 0 (va_A (MW cI cJ M mr mi mf mg) sz) := by
  refine mk_met (y := yX12_bestStep) (bytes := cX12_bestStep) (maxL := 6) (avs := [.ref M, .int z_k, .int z_fr, .int z_done]) (WS := (MW cI cJ M mr mi mf mg)) (Qf := fun A => va_Qi (fun (r : Int32) (u : Unit) => (0 ≤ r.toInt) ∧ (r.toInt + 1 ≤ (mi 6).toInt)) (fun u => QW D cI cJ A ((fun (u : Unit) => (MW cI cJ M mr mi mf mg)) u)) A) (by decide) (Nat.le_of_ble_eq_true rfl) ?_
  intro p e s m below meth c A ls E hr hlk hnm hX hw1 hl2
  have hl3 : lv_has ls 6 [(0, .ref M), (1, .int z_k), (2, .int z_fr), (3, .int z_done)] := hl2
  refine lv_iconst (pc := 0) (v := (-1)) E.1 E.2.1 dX12_bestStep_0 (by decide +kernel) ?_
  refine lv_istore (pc := 1) (lv' := [(4, .int (-1)), (0, .ref M), (1, .int z_k), (2, .int z_fr), (3, .int z_done)]) E.1 E.2.1 dX12_bestStep_1 hl3 (by decide) rfl (fun ls hl4 => ?_)
  refine lv_iconst (pc := 3) (v := 0) E.1 E.2.1 dX12_bestStep_3 (by decide +kernel) ?_
  refine lv_istore (pc := 4) (lv' := [(5, .int 0), (4, .int (-1)), (0, .ref M), (1, .int z_k), (2, .int z_fr), (3, .int z_done)]) E.1 E.2.1 dX12_bestStep_4 hl4 (by decide) rfl (fun ls hl5 => ?_)
  have loop_6 : ∀ (k : Nat) (x_7 : Int32) (x_8 : Int32) (H : Heap) (locs : List Loc) (ls : Array Slot), (0 ≤ x_7.toInt) ∧ (x_7.toInt ≤ (mi 6).toInt) ∧ ((-1) ≤ x_8.toInt) ∧ (x_8.toInt + 1 ≤ (mi 6).toInt) ∧ (x_7.toInt ≤ z_fr.toInt ∨ 0 ≤ x_8.toInt) → (mi 6).toInt - x_7.toInt < (k : Int) → WD D A s.heap (MW cI cJ M mr mi mf mg) H locs → lv_has ls 6 [(5, .int x_7), (4, .int x_8), (0, .ref M), (1, .int z_k), (2, .int z_fr), (3, .int z_done)] → W p l e ({ frames := 4, cells := 0, slots := 0, locals := 116 } : Room) s m ([.ref M, .int z_k, .int z_fr, .int z_done] : List Value).toArray below meth c H locs 0 0 (MQ below (va_Qi (fun (r : Int32) (u : Unit) => (0 ≤ r.toInt) ∧ (r.toInt + 1 ≤ (mi 6).toInt)) (fun u => QW D cI cJ A ((fun (u : Unit) => (MW cI cJ M mr mi mf mg)) u)) A) ([.ref M, .int z_k, .int z_fr, .int z_done] : List Value).toArray s 0 0 A) (F0 m 6 ls []) := by
    intro k
    induction k with
    | zero =>
      intro x_7 x_8 _ _ _ hinv hm
      obtain ⟨hi_8_0, hi_8_1, hi_8_2, hi_8_3, hi_8_4⟩ := hinv
      exact absurd hm (by omega)
    | succ k ih_9 =>
      intro x_7 x_8 H locs ls hinv hm hw10 hl11
      obtain ⟨hi_8_0, hi_8_1, hi_8_2, hi_8_3, hi_8_4⟩ := hinv
      refine lv_iload (pc := 6) E.1 E.2.1 dX12_bestStep_6 (lv_at hl11 0 rfl) ?_
      refine lv_aload_n (pc := 8) E.1 E.2.1 dX12_bestStep_8 rfl (lv_at hl11 2 rfl) ?_
      refine x_get (pc := 9) (T := TX12) (N := 70) (ci := 12) (v := .int (mi 6)) E hw10 inX12 0 6 q_1405 rfl rfl (by decide) rfl rfl dX12_bestStep_9 ?_
      refine lv_icmp_ge (pc := 12) (tgt := 62) E.1 E.2.1 dX12_bestStep_12 (by decide) (fun c_12 => ?_) (fun c_12 => ?_)
      · skip
        have hc_12 := leE (a := (mi 6).toInt) (b := x_7.toInt) rfl rfl c_12
        have hbest_13 : 0 ≤ x_8.toInt := by have q := hi_8_4; omega
        refine lv_iload (pc := 62) E.1 E.2.1 dX12_bestStep_62 (lv_at hl11 1 rfl) ?_
        exact em_i (w1 := (fun (u : Unit) => (MW cI cJ M mr mi mf mg))) E hr hlk () hw10 ⟨(by show 0 ≤ x_8.toInt; omega), hi_8_3⟩ (Nat.le_of_ble_eq_true rfl) (Nat.le_of_ble_eq_true rfl) dX12_bestStep_64
      · skip
        have hc_12 := nleE (a := (mi 6).toInt) (b := x_7.toInt) rfl rfl c_12
        refine lv_aload_n (pc := 15) E.1 E.2.1 dX12_bestStep_15 rfl (lv_at hl11 2 rfl) ?_
        refine lv_iload_n (pc := 16) E.1 E.2.1 dX12_bestStep_16 rfl (lv_at hl11 4 rfl) ?_
        refine lv_iload (pc := 17) E.1 E.2.1 dX12_bestStep_17 (lv_at hl11 0 rfl) ?_
        refine cm_i (pc := 19) hw10 (rn_M (As := [.int z_fr, .int x_7]) (rest := []) E hw10 (s_isReached l D cI cJ _ M mr mi mf mg z_fr x_7 (by show 0 ≤ z_fr.toInt ∧ z_fr.toInt ≤ 9; omega) (by show 0 ≤ x_7.toInt ∧ x_7.toInt ≤ 9; omega)) (gdV q_1843 q_1845 q_93 q_162 q_1846) hdV_X12_isReached ⟨rfl, rfl⟩ ⟨(Nat.le_of_ble_eq_true rfl), (Nat.le_of_ble_eq_true rfl)⟩ ⟨(Nat.le_of_ble_eq_true rfl), (Nat.le_of_ble_eq_true rfl)⟩ 12 rfl rfl rfl rfl hl11.1 rfl (Nat.le_of_ble_eq_true rfl) dX12_bestStep_19) (fun r_15 u_14 H1 locs hp hw16 => ?_)
        generalize H1 = H at hw16 ⊢
        have hw17 : WD D A s.heap (MW cI cJ M mr mi mf mg) H locs := hw16
        have hp_18 := hp
        rcases hp_18 with ⟨rfl, ha_19⟩ | rfl | ⟨rfl, ha_20⟩
        · skip
          have ha_19 : z_fr.toInt = x_7.toInt := ha_19
          refine lv_if_eq (pc := 22) (tgt := 56) E.1 E.2.1 dX12_bestStep_22 (by decide) (fun c_21 => absurd c_21 (mneE (a := 1) (b := 0) (by decide +kernel) (by decide +kernel) (by omega))) (fun _ => ?_)
          refine lv_iload (pc := 25) E.1 E.2.1 dX12_bestStep_25 (lv_at hl11 1 rfl) ?_
          refine lv_iconst (pc := 27) (v := (-1)) E.1 E.2.1 dX12_bestStep_27 (by decide +kernel) ?_
          refine lv_icmp_eq (pc := 28) (tgt := 52) E.1 E.2.1 dX12_bestStep_28 (by decide) (fun c_22 => ?_) (fun c_22 => ?_)
          · skip
            have hc_22 := eqE (a := x_8.toInt) (b := (-1)) rfl (by decide +kernel) c_22
            refine lv_iload (pc := 52) E.1 E.2.1 dX12_bestStep_52 (lv_at hl11 0 rfl) ?_
            refine lv_istore (pc := 54) (lv' := [(4, .int x_7), (5, .int x_7), (0, .ref M), (1, .int z_k), (2, .int z_fr), (3, .int z_done)]) E.1 E.2.1 dX12_bestStep_54 hl11 (by decide) rfl (fun ls hl23 => ?_)
            obtain ⟨v_24, ev_24⟩ : ∃ z : Int32, x_7 + Int32.ofInt (1) = z := ⟨_, rfl⟩
            have hv_24 : v_24.toInt = x_7.toInt + (1) := by rw [← ev_24]; exact incE rfl (by decide) (by omega)
            refine lv_iinc (pc := 56) (v := v_24) (lv' := [(5, .int v_24), (4, .int x_7), (0, .ref M), (1, .int z_k), (2, .int z_fr), (3, .int z_done)]) E.1 E.2.1 dX12_bestStep_56 hl23 (k := 1) rfl ev_24 (by decide) rfl (fun ls hl25 => ?_)
            refine lv_goto (pc := 59) (tgt := 6) E.1 E.2.1 dX12_bestStep_59 (by decide) ?_
            exact ih_9 v_24 x_7 _ _ _ ⟨(by show 0 ≤ v_24.toInt; omega), (by show v_24.toInt ≤ (mi 6).toInt; omega), (by show (-1) ≤ x_7.toInt; omega), (by show x_7.toInt + 1 ≤ (mi 6).toInt; omega), (by have q9 := hi_8_4; omega)⟩ (by omega) hw17 (lv_sub hl25 [0, 1, 2, 3, 4, 5] rfl)
          · skip
            have hc_22 := neE (a := x_8.toInt) (b := (-1)) rfl (by decide +kernel) c_22
            refine lv_aload_n (pc := 31) E.1 E.2.1 dX12_bestStep_31 rfl (lv_at hl11 2 rfl) ?_
            refine lv_iload_n (pc := 32) E.1 E.2.1 dX12_bestStep_32 rfl (lv_at hl11 3 rfl) ?_
            refine lv_iload_n (pc := 33) E.1 E.2.1 dX12_bestStep_33 rfl (lv_at hl11 4 rfl) ?_
            refine lv_iload (pc := 34) E.1 E.2.1 dX12_bestStep_34 (lv_at hl11 0 rfl) ?_
            refine lv_iload_n (pc := 36) E.1 E.2.1 dX12_bestStep_36 rfl (lv_at hl11 5 rfl) ?_
            refine cm_i (pc := 37) hw17 (rn_M (As := [.int z_k, .int z_fr, .int x_7, .int z_done]) (rest := []) E hw17 (s_byStep l D cI cJ _ M mr mi mf mg z_k z_fr x_7 z_done h0 h1 h2 (by show z_fr.toInt ≤ 9; omega) hi_8_0 (by show x_7.toInt ≤ 9; omega) h5 h6 h7) (gdV q_2002 q_2004 q_127 q_162 q_2005) hdV_X12_byStep ⟨rfl, rfl⟩ ⟨(Nat.le_of_ble_eq_true rfl), (Nat.le_of_ble_eq_true rfl)⟩ ⟨(Nat.le_of_ble_eq_true rfl), (Nat.le_of_ble_eq_true rfl)⟩ 12 rfl rfl rfl rfl hl11.1 rfl (Nat.le_of_ble_eq_true rfl) dX12_bestStep_37) (fun r_27 u_26 H1 locs hp hw28 => ?_)
            generalize H1 = H at hw28 ⊢
            have hw29 : WD D A s.heap (MW cI cJ M mr mi mf mg) H locs := hw28
            refine lv_aload_n (pc := 40) E.1 E.2.1 dX12_bestStep_40 rfl (lv_at hl11 2 rfl) ?_
            refine lv_iload_n (pc := 41) E.1 E.2.1 dX12_bestStep_41 rfl (lv_at hl11 3 rfl) ?_
            refine lv_iload_n (pc := 42) E.1 E.2.1 dX12_bestStep_42 rfl (lv_at hl11 4 rfl) ?_
            refine lv_iload (pc := 43) E.1 E.2.1 dX12_bestStep_43 (lv_at hl11 1 rfl) ?_
            refine lv_iload_n (pc := 45) E.1 E.2.1 dX12_bestStep_45 rfl (lv_at hl11 5 rfl) ?_
            refine cm_i (pc := 46) hw29 (rn_M (As := [.int z_k, .int z_fr, .int x_8, .int z_done]) (rest := [.int r_27]) E hw29 (s_byStep l D cI cJ _ M mr mi mf mg z_k z_fr x_8 z_done h0 h1 h2 (by show z_fr.toInt ≤ 9; omega) (by show 0 ≤ x_8.toInt; omega) (by show x_8.toInt ≤ 9; omega) h5 h6 h7) (gdV q_2002 q_2004 q_127 q_162 q_2005) hdV_X12_byStep ⟨rfl, rfl⟩ ⟨(Nat.le_of_ble_eq_true rfl), (Nat.le_of_ble_eq_true rfl)⟩ ⟨(Nat.le_of_ble_eq_true rfl), (Nat.le_of_ble_eq_true rfl)⟩ 12 rfl rfl rfl rfl hl11.1 rfl (Nat.le_of_ble_eq_true rfl) dX12_bestStep_46) (fun r_31 u_30 H1 locs hp hw32 => ?_)
            generalize H1 = H at hw32 ⊢
            have hw33 : WD D A s.heap (MW cI cJ M mr mi mf mg) H locs := hw32
            refine lv_icmp_le (pc := 49) (tgt := 56) E.1 E.2.1 dX12_bestStep_49 (by decide) (fun c_34 => ?_) (fun c_34 => ?_)
            · skip
              have hc_34 := leE (a := r_27.toInt) (b := r_31.toInt) rfl rfl c_34
              obtain ⟨v_35, ev_35⟩ : ∃ z : Int32, x_7 + Int32.ofInt (1) = z := ⟨_, rfl⟩
              have hv_35 : v_35.toInt = x_7.toInt + (1) := by rw [← ev_35]; exact incE rfl (by decide) (by omega)
              refine lv_iinc (pc := 56) (v := v_35) (lv' := [(5, .int v_35), (4, .int x_8), (0, .ref M), (1, .int z_k), (2, .int z_fr), (3, .int z_done)]) E.1 E.2.1 dX12_bestStep_56 hl11 (k := 0) rfl ev_35 (by decide) rfl (fun ls hl36 => ?_)
              refine lv_goto (pc := 59) (tgt := 6) E.1 E.2.1 dX12_bestStep_59 (by decide) ?_
              exact ih_9 v_35 x_8 _ _ _ ⟨(by show 0 ≤ v_35.toInt; omega), (by show v_35.toInt ≤ (mi 6).toInt; omega), hi_8_2, hi_8_3, (by have q9 := hi_8_4; omega)⟩ (by omega) hw33 (lv_sub hl36 [0, 1, 2, 3, 4, 5] rfl)
            · skip
              have hc_34 := nleE (a := r_27.toInt) (b := r_31.toInt) rfl rfl c_34
              refine lv_iload (pc := 52) E.1 E.2.1 dX12_bestStep_52 (lv_at hl11 0 rfl) ?_
              refine lv_istore (pc := 54) (lv' := [(4, .int x_7), (5, .int x_7), (0, .ref M), (1, .int z_k), (2, .int z_fr), (3, .int z_done)]) E.1 E.2.1 dX12_bestStep_54 hl11 (by decide) rfl (fun ls hl37 => ?_)
              obtain ⟨v_38, ev_38⟩ : ∃ z : Int32, x_7 + Int32.ofInt (1) = z := ⟨_, rfl⟩
              have hv_38 : v_38.toInt = x_7.toInt + (1) := by rw [← ev_38]; exact incE rfl (by decide) (by omega)
              refine lv_iinc (pc := 56) (v := v_38) (lv' := [(5, .int v_38), (4, .int x_7), (0, .ref M), (1, .int z_k), (2, .int z_fr), (3, .int z_done)]) E.1 E.2.1 dX12_bestStep_56 hl37 (k := 1) rfl ev_38 (by decide) rfl (fun ls hl39 => ?_)
              refine lv_goto (pc := 59) (tgt := 6) E.1 E.2.1 dX12_bestStep_59 (by decide) ?_
              exact ih_9 v_38 x_7 _ _ _ ⟨(by show 0 ≤ v_38.toInt; omega), (by show v_38.toInt ≤ (mi 6).toInt; omega), (by show (-1) ≤ x_7.toInt; omega), (by show x_7.toInt + 1 ≤ (mi 6).toInt; omega), (by have q9 := hi_8_4; omega)⟩ (by omega) hw33 (lv_sub hl39 [0, 1, 2, 3, 4, 5] rfl)
        · skip
          refine lv_if_eq (pc := 22) (tgt := 56) E.1 E.2.1 dX12_bestStep_22 (by decide) (fun c_40 => absurd c_40 (mneE (a := 1) (b := 0) (by decide +kernel) (by decide +kernel) (by omega))) (fun _ => ?_)
          refine lv_iload (pc := 25) E.1 E.2.1 dX12_bestStep_25 (lv_at hl11 1 rfl) ?_
          refine lv_iconst (pc := 27) (v := (-1)) E.1 E.2.1 dX12_bestStep_27 (by decide +kernel) ?_
          refine lv_icmp_eq (pc := 28) (tgt := 52) E.1 E.2.1 dX12_bestStep_28 (by decide) (fun c_41 => ?_) (fun c_41 => ?_)
          · skip
            have hc_41 := eqE (a := x_8.toInt) (b := (-1)) rfl (by decide +kernel) c_41
            refine lv_iload (pc := 52) E.1 E.2.1 dX12_bestStep_52 (lv_at hl11 0 rfl) ?_
            refine lv_istore (pc := 54) (lv' := [(4, .int x_7), (5, .int x_7), (0, .ref M), (1, .int z_k), (2, .int z_fr), (3, .int z_done)]) E.1 E.2.1 dX12_bestStep_54 hl11 (by decide) rfl (fun ls hl42 => ?_)
            obtain ⟨v_43, ev_43⟩ : ∃ z : Int32, x_7 + Int32.ofInt (1) = z := ⟨_, rfl⟩
            have hv_43 : v_43.toInt = x_7.toInt + (1) := by rw [← ev_43]; exact incE rfl (by decide) (by omega)
            refine lv_iinc (pc := 56) (v := v_43) (lv' := [(5, .int v_43), (4, .int x_7), (0, .ref M), (1, .int z_k), (2, .int z_fr), (3, .int z_done)]) E.1 E.2.1 dX12_bestStep_56 hl42 (k := 1) rfl ev_43 (by decide) rfl (fun ls hl44 => ?_)
            refine lv_goto (pc := 59) (tgt := 6) E.1 E.2.1 dX12_bestStep_59 (by decide) ?_
            exact ih_9 v_43 x_7 _ _ _ ⟨(by show 0 ≤ v_43.toInt; omega), (by show v_43.toInt ≤ (mi 6).toInt; omega), (by show (-1) ≤ x_7.toInt; omega), (by show x_7.toInt + 1 ≤ (mi 6).toInt; omega), (by have q9 := hi_8_4; omega)⟩ (by omega) hw17 (lv_sub hl44 [0, 1, 2, 3, 4, 5] rfl)
          · skip
            have hc_41 := neE (a := x_8.toInt) (b := (-1)) rfl (by decide +kernel) c_41
            refine lv_aload_n (pc := 31) E.1 E.2.1 dX12_bestStep_31 rfl (lv_at hl11 2 rfl) ?_
            refine lv_iload_n (pc := 32) E.1 E.2.1 dX12_bestStep_32 rfl (lv_at hl11 3 rfl) ?_
            refine lv_iload_n (pc := 33) E.1 E.2.1 dX12_bestStep_33 rfl (lv_at hl11 4 rfl) ?_
            refine lv_iload (pc := 34) E.1 E.2.1 dX12_bestStep_34 (lv_at hl11 0 rfl) ?_
            refine lv_iload_n (pc := 36) E.1 E.2.1 dX12_bestStep_36 rfl (lv_at hl11 5 rfl) ?_
            refine cm_i (pc := 37) hw17 (rn_M (As := [.int z_k, .int z_fr, .int x_7, .int z_done]) (rest := []) E hw17 (s_byStep l D cI cJ _ M mr mi mf mg z_k z_fr x_7 z_done h0 h1 h2 (by show z_fr.toInt ≤ 9; omega) hi_8_0 (by show x_7.toInt ≤ 9; omega) h5 h6 h7) (gdV q_2002 q_2004 q_127 q_162 q_2005) hdV_X12_byStep ⟨rfl, rfl⟩ ⟨(Nat.le_of_ble_eq_true rfl), (Nat.le_of_ble_eq_true rfl)⟩ ⟨(Nat.le_of_ble_eq_true rfl), (Nat.le_of_ble_eq_true rfl)⟩ 12 rfl rfl rfl rfl hl11.1 rfl (Nat.le_of_ble_eq_true rfl) dX12_bestStep_37) (fun r_46 u_45 H1 locs hp hw47 => ?_)
            generalize H1 = H at hw47 ⊢
            have hw48 : WD D A s.heap (MW cI cJ M mr mi mf mg) H locs := hw47
            refine lv_aload_n (pc := 40) E.1 E.2.1 dX12_bestStep_40 rfl (lv_at hl11 2 rfl) ?_
            refine lv_iload_n (pc := 41) E.1 E.2.1 dX12_bestStep_41 rfl (lv_at hl11 3 rfl) ?_
            refine lv_iload_n (pc := 42) E.1 E.2.1 dX12_bestStep_42 rfl (lv_at hl11 4 rfl) ?_
            refine lv_iload (pc := 43) E.1 E.2.1 dX12_bestStep_43 (lv_at hl11 1 rfl) ?_
            refine lv_iload_n (pc := 45) E.1 E.2.1 dX12_bestStep_45 rfl (lv_at hl11 5 rfl) ?_
            refine cm_i (pc := 46) hw48 (rn_M (As := [.int z_k, .int z_fr, .int x_8, .int z_done]) (rest := [.int r_46]) E hw48 (s_byStep l D cI cJ _ M mr mi mf mg z_k z_fr x_8 z_done h0 h1 h2 (by show z_fr.toInt ≤ 9; omega) (by show 0 ≤ x_8.toInt; omega) (by show x_8.toInt ≤ 9; omega) h5 h6 h7) (gdV q_2002 q_2004 q_127 q_162 q_2005) hdV_X12_byStep ⟨rfl, rfl⟩ ⟨(Nat.le_of_ble_eq_true rfl), (Nat.le_of_ble_eq_true rfl)⟩ ⟨(Nat.le_of_ble_eq_true rfl), (Nat.le_of_ble_eq_true rfl)⟩ 12 rfl rfl rfl rfl hl11.1 rfl (Nat.le_of_ble_eq_true rfl) dX12_bestStep_46) (fun r_50 u_49 H1 locs hp hw51 => ?_)
            generalize H1 = H at hw51 ⊢
            have hw52 : WD D A s.heap (MW cI cJ M mr mi mf mg) H locs := hw51
            refine lv_icmp_le (pc := 49) (tgt := 56) E.1 E.2.1 dX12_bestStep_49 (by decide) (fun c_53 => ?_) (fun c_53 => ?_)
            · skip
              have hc_53 := leE (a := r_46.toInt) (b := r_50.toInt) rfl rfl c_53
              obtain ⟨v_54, ev_54⟩ : ∃ z : Int32, x_7 + Int32.ofInt (1) = z := ⟨_, rfl⟩
              have hv_54 : v_54.toInt = x_7.toInt + (1) := by rw [← ev_54]; exact incE rfl (by decide) (by omega)
              refine lv_iinc (pc := 56) (v := v_54) (lv' := [(5, .int v_54), (4, .int x_8), (0, .ref M), (1, .int z_k), (2, .int z_fr), (3, .int z_done)]) E.1 E.2.1 dX12_bestStep_56 hl11 (k := 0) rfl ev_54 (by decide) rfl (fun ls hl55 => ?_)
              refine lv_goto (pc := 59) (tgt := 6) E.1 E.2.1 dX12_bestStep_59 (by decide) ?_
              exact ih_9 v_54 x_8 _ _ _ ⟨(by show 0 ≤ v_54.toInt; omega), (by show v_54.toInt ≤ (mi 6).toInt; omega), hi_8_2, hi_8_3, (by have q9 := hi_8_4; omega)⟩ (by omega) hw52 (lv_sub hl55 [0, 1, 2, 3, 4, 5] rfl)
            · skip
              have hc_53 := nleE (a := r_46.toInt) (b := r_50.toInt) rfl rfl c_53
              refine lv_iload (pc := 52) E.1 E.2.1 dX12_bestStep_52 (lv_at hl11 0 rfl) ?_
              refine lv_istore (pc := 54) (lv' := [(4, .int x_7), (5, .int x_7), (0, .ref M), (1, .int z_k), (2, .int z_fr), (3, .int z_done)]) E.1 E.2.1 dX12_bestStep_54 hl11 (by decide) rfl (fun ls hl56 => ?_)
              obtain ⟨v_57, ev_57⟩ : ∃ z : Int32, x_7 + Int32.ofInt (1) = z := ⟨_, rfl⟩
              have hv_57 : v_57.toInt = x_7.toInt + (1) := by rw [← ev_57]; exact incE rfl (by decide) (by omega)
              refine lv_iinc (pc := 56) (v := v_57) (lv' := [(5, .int v_57), (4, .int x_7), (0, .ref M), (1, .int z_k), (2, .int z_fr), (3, .int z_done)]) E.1 E.2.1 dX12_bestStep_56 hl56 (k := 1) rfl ev_57 (by decide) rfl (fun ls hl58 => ?_)
              refine lv_goto (pc := 59) (tgt := 6) E.1 E.2.1 dX12_bestStep_59 (by decide) ?_
              exact ih_9 v_57 x_7 _ _ _ ⟨(by show 0 ≤ v_57.toInt; omega), (by show v_57.toInt ≤ (mi 6).toInt; omega), (by show (-1) ≤ x_7.toInt; omega), (by show x_7.toInt + 1 ≤ (mi 6).toInt; omega), (by have q9 := hi_8_4; omega)⟩ (by omega) hw52 (lv_sub hl58 [0, 1, 2, 3, 4, 5] rfl)
        · skip
          have ha_20 : ¬ z_fr.toInt = x_7.toInt := ha_20
          refine lv_if_eq (pc := 22) (tgt := 56) E.1 E.2.1 dX12_bestStep_22 (by decide) (fun _ => ?_) (fun c_59 => absurd (meqE (a := 0) (b := 0) (by decide +kernel) (by decide +kernel) (by omega)) c_59)
          obtain ⟨v_60, ev_60⟩ : ∃ z : Int32, x_7 + Int32.ofInt (1) = z := ⟨_, rfl⟩
          have hv_60 : v_60.toInt = x_7.toInt + (1) := by rw [← ev_60]; exact incE rfl (by decide) (by omega)
          refine lv_iinc (pc := 56) (v := v_60) (lv' := [(5, .int v_60), (4, .int x_8), (0, .ref M), (1, .int z_k), (2, .int z_fr), (3, .int z_done)]) E.1 E.2.1 dX12_bestStep_56 hl11 (k := 0) rfl ev_60 (by decide) rfl (fun ls hl61 => ?_)
          refine lv_goto (pc := 59) (tgt := 6) E.1 E.2.1 dX12_bestStep_59 (by decide) ?_
          exact ih_9 v_60 x_8 _ _ _ ⟨(by show 0 ≤ v_60.toInt; omega), (by show v_60.toInt ≤ (mi 6).toInt; omega), hi_8_2, hi_8_3, (by have q9 := hi_8_4; omega)⟩ (by omega) hw17 (lv_sub hl61 [0, 1, 2, 3, 4, 5] rfl)
  exact loop_6 (Int.toNat ((mi 6).toInt - 0) + 1) 0 (-1) _ _ _ ⟨(by show 0 ≤ (0 : Int32).toInt; have k_0 : (0 : Int32).toInt = 0 := (by decide +kernel); omega), (by show (0 : Int32).toInt ≤ (mi 6).toInt; have k_0 : (0 : Int32).toInt = 0 := (by decide +kernel); omega), (by show (-1) ≤ ((-1) : Int32).toInt; have k_0 : ((-1) : Int32).toInt = -1 := (by decide +kernel); omega), (by show ((-1) : Int32).toInt + 1 ≤ (mi 6).toInt; have k_0 : ((-1) : Int32).toInt = -1 := (by decide +kernel); omega), (Or.inl (by have k9 : (0 : Int32).toInt = 0 := (by decide +kernel); omega))⟩ (by have k_0 : (0 : Int32).toInt = 0 := (by decide +kernel); have k_1 : ((-1) : Int32).toInt = -1 := (by decide +kernel); omega) hw1 (lv_sub hl5 [0, 1, 2, 3, 4, 5] rfl)

set_option maxHeartbeats 4000000 in
set_option maxRecDepth 100000 in
theorem s_findsPlans (l : Launch) (D : va_G) (cI cJ : ClassId) (sz M : Nat) (mr : Nat → Nat) (mi : Nat → Int32) (mf : Nat → Nat → Int32) (mg : Nat → Nat → Int64) (z_n : Int32) (h0 : 1 ≤ z_n.toInt ∧ z_n.toInt ≤ 10) (h1 : 0 ≤ ((mf 1) 3).toInt) (h2 : ((mf 1) 3).toInt + 1 ≤ (mi 6).toInt) (h3 : (mi 6).toInt ≤ 10) (h4 : 0 ≤ (mi 44).toInt ∧ (mi 44).toInt ≤ 10) : Met l yX12_findsPlans (Cond.code yX12_findsPlans cX12_findsPlans 5 none :: GW) ({ frames := 5, cells := 0, slots := 0, locals := 141 } : Room) (va_Pc [.ref M, .int z_n] (PW D cI cJ sz (MW cI cJ M mr mi mf mg) xT)) (va_Qv (fun (u : (Nat → Int32)) => True) (fun u => QW D cI cJ (va_A (MW cI cJ M mr mi mf mg) sz) ((fun (u : (Nat → Int32)) => (MW cI cJ M mr mi (va_up mf 59 u) mg)) u)) (va_A (MW cI cJ M mr mi mf mg) sz)) 0 0 (va_A (MW cI cJ M mr mi mf mg) sz) := by
  refine mk_met (y := yX12_findsPlans) (bytes := cX12_findsPlans) (maxL := 5) (avs := [.ref M, .int z_n]) (WS := (MW cI cJ M mr mi mf mg)) (Qf := fun A => va_Qv (fun (u : (Nat → Int32)) => True) (fun u => QW D cI cJ A ((fun (u : (Nat → Int32)) => (MW cI cJ M mr mi (va_up mf 59 u) mg)) u)) A) (by decide) (Nat.le_of_ble_eq_true rfl) ?_
  intro p e s m below meth c A ls E hr hlk hnm hX hw1 hl2
  have hl3 : lv_has ls 5 [(0, .ref M), (1, .int z_n)] := hl2
  refine lv_iconst (pc := 0) (v := 0) E.1 E.2.1 dX12_findsPlans_0 (by decide +kernel) ?_
  refine lv_istore_n (pc := 1) (lv' := [(2, .int 0), (0, .ref M), (1, .int z_n)]) E.1 E.2.1 dX12_findsPlans_1 rfl hl3 (by decide) rfl (fun ls hl4 => ?_)
  have loop_5 : ∀ (k : Nat) (x_6 : Int32) (g_7 : Nat → Int32) (H : Heap) (locs : List Loc) (ls : Array Slot), (0 ≤ x_6.toInt) ∧ (x_6.toInt ≤ (mi 6).toInt) → (mi 6).toInt - x_6.toInt < (k : Int) → WD D A s.heap (MW cI cJ M mr mi (va_up mf 59 g_7) mg) H locs → lv_has ls 5 [(2, .int x_6), (0, .ref M), (1, .int z_n)] → W p l e ({ frames := 5, cells := 0, slots := 0, locals := 141 } : Room) s m ([.ref M, .int z_n] : List Value).toArray below meth c H locs 0 0 (MQ below (va_Qv (fun (u : (Nat → Int32)) => True) (fun u => QW D cI cJ A ((fun (u : (Nat → Int32)) => (MW cI cJ M mr mi (va_up mf 59 u) mg)) u)) A) ([.ref M, .int z_n] : List Value).toArray s 0 0 A) (F0 m 2 ls []) := by
    intro k
    induction k with
    | zero =>
      intro x_6 g_7 _ _ _ hinv hm
      obtain ⟨hi_7_0, hi_7_1⟩ := hinv
      exact absurd hm (by omega)
    | succ k ih_8 =>
      intro x_6 g_7 H locs ls hinv hm hw9 hl10
      obtain ⟨hi_7_0, hi_7_1⟩ := hinv
      refine lv_iload_n (pc := 2) E.1 E.2.1 dX12_findsPlans_2 rfl (lv_at hl10 0 rfl) ?_
      refine lv_aload_n (pc := 3) E.1 E.2.1 dX12_findsPlans_3 rfl (lv_at hl10 1 rfl) ?_
      refine x_get (pc := 4) (T := TX12) (N := 70) (ci := 12) (v := .int (mi 6)) E hw9 inX12 0 6 q_1405 rfl rfl (by decide) rfl rfl dX12_findsPlans_4 ?_
      refine lv_icmp_ge (pc := 7) (tgt := 47) E.1 E.2.1 dX12_findsPlans_7 (by decide) (fun c_11 => ?_) (fun c_11 => ?_)
      · skip
        have hc_11 := leE (a := (mi 6).toInt) (b := x_6.toInt) rfl rfl c_11
        refine lv_iload_n (pc := 47) E.1 E.2.1 dX12_findsPlans_47 rfl (lv_at hl10 2 rfl) ?_
        refine lv_iconst (pc := 48) (v := 1) E.1 E.2.1 dX12_findsPlans_48 (by decide +kernel) ?_
        refine lv_isub (pc := 49) E.1 E.2.1 dX12_findsPlans_49 ?_
        refine lv_topi (fun v_12 ev_12 => ?_)
        have hv_12 : v_12.toInt = z_n.toInt - 1 := by rw [ev_12]; exact subE rfl (by decide +kernel) (by omega)
        refine lv_istore_n (pc := 50) (lv' := [(2, .int v_12), (0, .ref M), (1, .int z_n)]) E.1 E.2.1 dX12_findsPlans_50 rfl hl10 (by decide) rfl (fun ls hl13 => ?_)
        have loop_14 : ∀ (k : Nat) (x_15 : Int32) (g_16 : Nat → Int32) (H : Heap) (locs : List Loc) (ls : Array Slot), ((-1) ≤ x_15.toInt) ∧ (x_15.toInt ≤ z_n.toInt - 1) → x_15.toInt + 1 < (k : Int) → WD D A s.heap (MW cI cJ M mr mi (va_up mf 59 g_16) mg) H locs → lv_has ls 5 [(2, .int x_15), (0, .ref M), (1, .int z_n)] → W p l e ({ frames := 5, cells := 0, slots := 0, locals := 141 } : Room) s m ([.ref M, .int z_n] : List Value).toArray below meth c H locs 0 0 (MQ below (va_Qv (fun (u : (Nat → Int32)) => True) (fun u => QW D cI cJ A ((fun (u : (Nat → Int32)) => (MW cI cJ M mr mi (va_up mf 59 u) mg)) u)) A) ([.ref M, .int z_n] : List Value).toArray s 0 0 A) (F0 m 51 ls []) := by
          intro k
          induction k with
          | zero =>
            intro x_15 g_16 _ _ _ hinv hm
            obtain ⟨hi_16_0, hi_16_1⟩ := hinv
            exact absurd hm (by omega)
          | succ k ih_17 =>
            intro x_15 g_16 H locs ls hinv hm hw18 hl19
            obtain ⟨hi_16_0, hi_16_1⟩ := hinv
            refine lv_iload_n (pc := 51) E.1 E.2.1 dX12_findsPlans_51 rfl (lv_at hl19 0 rfl) ?_
            refine lv_if_lt (pc := 52) (tgt := 152) E.1 E.2.1 dX12_findsPlans_52 (by decide) (fun c_20 => ?_) (fun c_20 => ?_)
            · skip
              have hc_20 := ltE (a := x_15.toInt) (b := 0) rfl (by decide +kernel) c_20
              exact em_v (w1 := (fun (u : (Nat → Int32)) => (MW cI cJ M mr mi (va_up mf 59 u) mg))) E hr hlk g_16 hw18 trivial (Nat.le_of_ble_eq_true rfl) (Nat.le_of_ble_eq_true rfl) dX12_findsPlans_152
            · skip
              have hc_20 := nltE (a := x_15.toInt) (b := 0) rfl (by decide +kernel) c_20
              refine lv_iconst (pc := 55) (v := 0) E.1 E.2.1 dX12_findsPlans_55 (by decide +kernel) ?_
              refine lv_istore_n (pc := 56) (lv' := [(3, .int 0), (2, .int x_15), (0, .ref M), (1, .int z_n)]) E.1 E.2.1 dX12_findsPlans_56 rfl hl19 (by decide) rfl (fun ls hl21 => ?_)
              have loop_22 : ∀ (k : Nat) (x_23 : Int32) (g_24 : Nat → Int32) (H : Heap) (locs : List Loc) (ls : Array Slot), (0 ≤ x_23.toInt) ∧ (x_23.toInt ≤ (mi 6).toInt) → (mi 6).toInt - x_23.toInt < (k : Int) → WD D A s.heap (MW cI cJ M mr mi (va_up mf 59 g_24) mg) H locs → lv_has ls 5 [(3, .int x_23), (2, .int x_15), (0, .ref M), (1, .int z_n)] → W p l e ({ frames := 5, cells := 0, slots := 0, locals := 141 } : Room) s m ([.ref M, .int z_n] : List Value).toArray below meth c H locs 0 0 (MQ below (va_Qv (fun (u : (Nat → Int32)) => True) (fun u => QW D cI cJ A ((fun (u : (Nat → Int32)) => (MW cI cJ M mr mi (va_up mf 59 u) mg)) u)) A) ([.ref M, .int z_n] : List Value).toArray s 0 0 A) (F0 m 57 ls []) := by
                intro k
                induction k with
                | zero =>
                  intro x_23 g_24 _ _ _ hinv hm
                  obtain ⟨hi_24_0, hi_24_1⟩ := hinv
                  exact absurd hm (by omega)
                | succ k ih_25 =>
                  intro x_23 g_24 H locs ls hinv hm hw26 hl27
                  obtain ⟨hi_24_0, hi_24_1⟩ := hinv
                  refine lv_iload_n (pc := 57) E.1 E.2.1 dX12_findsPlans_57 rfl (lv_at hl27 0 rfl) ?_
                  refine lv_aload_n (pc := 58) E.1 E.2.1 dX12_findsPlans_58 rfl (lv_at hl27 2 rfl) ?_
                  refine x_get (pc := 59) (T := TX12) (N := 70) (ci := 12) (v := .int (mi 6)) E hw26 inX12 0 6 q_1405 rfl rfl (by decide) rfl rfl dX12_findsPlans_59 ?_
                  refine lv_icmp_ge (pc := 62) (tgt := 146) E.1 E.2.1 dX12_findsPlans_62 (by decide) (fun c_28 => ?_) (fun c_28 => ?_)
                  · skip
                    have hc_28 := leE (a := (mi 6).toInt) (b := x_23.toInt) rfl rfl c_28
                    obtain ⟨v_29, ev_29⟩ : ∃ z : Int32, x_15 + Int32.ofInt (-1) = z := ⟨_, rfl⟩
                    have hv_29 : v_29.toInt = x_15.toInt + (-1) := by rw [← ev_29]; exact incE rfl (by decide) (by omega)
                    refine lv_iinc (pc := 146) (v := v_29) (lv' := [(2, .int v_29), (3, .int x_23), (0, .ref M), (1, .int z_n)]) E.1 E.2.1 dX12_findsPlans_146 hl27 (k := 1) rfl ev_29 (by decide) rfl (fun ls hl30 => ?_)
                    refine lv_goto (pc := 149) (tgt := 51) E.1 E.2.1 dX12_findsPlans_149 (by decide) ?_
                    exact ih_17 v_29 g_24 _ _ _ ⟨(by show (-1) ≤ v_29.toInt; omega), (by show v_29.toInt ≤ z_n.toInt - 1; omega)⟩ (by omega) hw26 (lv_sub hl30 [0, 2, 3] rfl)
                  · skip
                    have hc_28 := nleE (a := (mi 6).toInt) (b := x_23.toInt) rfl rfl c_28
                    refine lv_iload_n (pc := 65) E.1 E.2.1 dX12_findsPlans_65 rfl (lv_at hl27 1 rfl) ?_
                    refine lv_if_ne (pc := 66) (tgt := 82) E.1 E.2.1 dX12_findsPlans_66 (by decide) (fun c_31 => ?_) (fun c_31 => ?_)
                    · skip
                      have hc_31 := neE (a := x_15.toInt) (b := 0) rfl (by decide +kernel) c_31
                      refine lv_iconst (pc := 82) (v := 0) E.1 E.2.1 dX12_findsPlans_82 (by decide +kernel) ?_
                      refine lv_istore (pc := 83) (lv' := [(4, .int 0), (3, .int x_23), (2, .int x_15), (0, .ref M), (1, .int z_n)]) E.1 E.2.1 dX12_findsPlans_83 hl27 (by decide) rfl (fun ls hl32 => ?_)
                      have loop_33 : ∀ (k : Nat) (x_34 : Int32) (g_35 : Nat → Int32) (H : Heap) (locs : List Loc) (ls : Array Slot), (0 ≤ x_34.toInt) ∧ (x_34.toInt ≤ 1024) → 1024 - x_34.toInt < (k : Int) → WD D A s.heap (MW cI cJ M mr mi (va_up mf 59 g_35) mg) H locs → lv_has ls 5 [(4, .int x_34), (3, .int x_23), (2, .int x_15), (0, .ref M), (1, .int z_n)] → W p l e ({ frames := 5, cells := 0, slots := 0, locals := 141 } : Room) s m ([.ref M, .int z_n] : List Value).toArray below meth c H locs 0 0 (MQ below (va_Qv (fun (u : (Nat → Int32)) => True) (fun u => QW D cI cJ A ((fun (u : (Nat → Int32)) => (MW cI cJ M mr mi (va_up mf 59 u) mg)) u)) A) ([.ref M, .int z_n] : List Value).toArray s 0 0 A) (F0 m 85 ls []) := by
                        intro k
                        induction k with
                        | zero =>
                          intro x_34 g_35 _ _ _ hinv hm
                          obtain ⟨hi_35_0, hi_35_1⟩ := hinv
                          exact absurd hm (by omega)
                        | succ k ih_36 =>
                          intro x_34 g_35 H locs ls hinv hm hw37 hl38
                          obtain ⟨hi_35_0, hi_35_1⟩ := hinv
                          refine lv_iload (pc := 85) E.1 E.2.1 dX12_findsPlans_85 (lv_at hl38 0 rfl) ?_
                          refine lv_iconst (pc := 87) (v := 1) E.1 E.2.1 dX12_findsPlans_87 (by decide +kernel) ?_
                          refine lv_aload_n (pc := 88) E.1 E.2.1 dX12_findsPlans_88 rfl (lv_at hl38 3 rfl) ?_
                          refine x_get (pc := 89) (T := TX12) (N := 70) (ci := 12) (v := .int (mi 44)) E hw37 inX12 0 44 q_1443 rfl rfl (by decide) rfl rfl dX12_findsPlans_89 ?_
                          refine lv_ishl (pc := 92) E.1 E.2.1 dX12_findsPlans_92 ?_
                          refine lv_topi (fun v_39 ev_39 => ?_)
                          have hb1v_39 : 1 ≤ v_39.toInt ∧ v_39.toInt ≤ 1024 := by rw [ev_39]; exact shl10 (by omega)
                          refine lv_icmp_ge (pc := 93) (tgt := 140) E.1 E.2.1 dX12_findsPlans_93 (by decide) (fun c_40 => ?_) (fun c_40 => ?_)
                          · skip
                            have hc_40 := leE (a := v_39.toInt) (b := x_34.toInt) rfl rfl c_40
                            obtain ⟨v_41, ev_41⟩ : ∃ z : Int32, x_23 + Int32.ofInt (1) = z := ⟨_, rfl⟩
                            have hv_41 : v_41.toInt = x_23.toInt + (1) := by rw [← ev_41]; exact incE rfl (by decide) (by omega)
                            refine lv_iinc (pc := 140) (v := v_41) (lv' := [(3, .int v_41), (4, .int x_34), (2, .int x_15), (0, .ref M), (1, .int z_n)]) E.1 E.2.1 dX12_findsPlans_140 hl38 (k := 1) rfl ev_41 (by decide) rfl (fun ls hl42 => ?_)
                            refine lv_goto (pc := 143) (tgt := 57) E.1 E.2.1 dX12_findsPlans_143 (by decide) ?_
                            exact ih_25 v_41 g_35 _ _ _ ⟨(by show 0 ≤ v_41.toInt; omega), (by show v_41.toInt ≤ (mi 6).toInt; omega)⟩ (by omega) hw37 (lv_sub hl42 [0, 2, 3, 4] rfl)
                          · skip
                            have hc_40 := nleE (a := v_39.toInt) (b := x_34.toInt) rfl rfl c_40
                            refine lv_iload_n (pc := 96) E.1 E.2.1 dX12_findsPlans_96 rfl (lv_at hl38 2 rfl) ?_
                            refine lv_if_gt (pc := 97) (tgt := 105) E.1 E.2.1 dX12_findsPlans_97 (by decide) (fun _ => ?_) (fun c_43 => absurd (mltE (a := 0) (b := x_15.toInt) (by decide +kernel) rfl (by omega)) c_43)
                            refine lv_aload_n (pc := 105) E.1 E.2.1 dX12_findsPlans_105 rfl (lv_at hl38 3 rfl) ?_
                            refine x_get (pc := 106) (T := TX12) (N := 70) (ci := 12) (v := .ref (mr 59)) E hw37 inX12 0 59 q_1458 rfl rfl (by decide) rfl rfl dX12_findsPlans_106 ?_
                            refine lv_aload_n (pc := 109) E.1 E.2.1 dX12_findsPlans_109 rfl (lv_at hl38 3 rfl) ?_
                            refine lv_iload_n (pc := 110) E.1 E.2.1 dX12_findsPlans_110 rfl (lv_at hl38 2 rfl) ?_
                            refine lv_iload_n (pc := 111) E.1 E.2.1 dX12_findsPlans_111 rfl (lv_at hl38 1 rfl) ?_
                            refine lv_iload (pc := 112) E.1 E.2.1 dX12_findsPlans_112 (lv_at hl38 0 rfl) ?_
                            refine cm_i (pc := 114) hw37 (rn_M (As := [.int x_15, .int x_23, .int x_34]) (rest := [.ref (mr 59)]) E hw37 (s_planAt l D cI cJ _ M mr mi (va_up mf 59 g_35) mg x_15 x_23 x_34 (by show 0 ≤ x_15.toInt; omega) (by show x_15.toInt ≤ 10; omega) hi_24_0 (by show x_23.toInt ≤ 9; omega) hi_35_0 (by show x_34.toInt ≤ 1023; omega)) (gdV q_1994 q_1996 q_125 q_162 q_1997) hdV_X12_planAt ⟨rfl, rfl⟩ ⟨(Nat.le_of_ble_eq_true rfl), (Nat.le_of_ble_eq_true rfl)⟩ ⟨(Nat.le_of_ble_eq_true rfl), (Nat.le_of_ble_eq_true rfl)⟩ 12 rfl rfl rfl rfl hl38.1 rfl (Nat.le_of_ble_eq_true rfl) dX12_findsPlans_114) (fun r_45 u_44 H1 locs hp hw46 => ?_)
                            generalize H1 = H at hw46 ⊢
                            have hw47 : WD D A s.heap (MW cI cJ M mr mi (va_up mf 59 g_35) mg) H locs := hw46
                            have hp_48 := hp
                            have hp_48 : r_45.toInt = 10240 * x_15.toInt + 1024 * x_23.toInt + x_34.toInt := hp_48
                            refine lv_aload_n (pc := 117) E.1 E.2.1 dX12_findsPlans_117 rfl (lv_at hl38 3 rfl) ?_
                            refine lv_iload_n (pc := 118) E.1 E.2.1 dX12_findsPlans_118 rfl (lv_at hl38 2 rfl) ?_
                            refine lv_iload_n (pc := 119) E.1 E.2.1 dX12_findsPlans_119 rfl (lv_at hl38 1 rfl) ?_
                            refine lv_aload_n (pc := 120) E.1 E.2.1 dX12_findsPlans_120 rfl (lv_at hl38 3 rfl) ?_
                            refine lv_iload_n (pc := 121) E.1 E.2.1 dX12_findsPlans_121 rfl (lv_at hl38 2 rfl) ?_
                            refine lv_iload_n (pc := 122) E.1 E.2.1 dX12_findsPlans_122 rfl (lv_at hl38 1 rfl) ?_
                            refine lv_iload (pc := 123) E.1 E.2.1 dX12_findsPlans_123 (lv_at hl38 0 rfl) ?_
                            refine cm_i (pc := 125) hw47 (rn_M (As := [.int x_15, .int x_23, .int x_34]) (rest := [.int x_23, .int x_15, .ref M, .int r_45, .ref (mr 59)]) E hw47 (s_bestStep l D cI cJ _ M mr mi (va_up mf 59 g_35) mg x_15 x_23 x_34 (by show 0 ≤ x_15.toInt; omega) (by show x_15.toInt ≤ 9; omega) hi_24_0 (by show x_23.toInt + 1 ≤ (mi 6).toInt; omega) h3 hi_35_0 (by show x_34.toInt ≤ 1023; omega) h4) (gdV q_1998 q_2000 q_126 q_162 q_2001) hdV_X12_bestStep ⟨rfl, rfl⟩ ⟨(Nat.le_of_ble_eq_true rfl), (Nat.le_of_ble_eq_true rfl)⟩ ⟨(Nat.le_of_ble_eq_true rfl), (Nat.le_of_ble_eq_true rfl)⟩ 12 rfl rfl rfl rfl hl38.1 rfl (Nat.le_of_ble_eq_true rfl) dX12_findsPlans_125) (fun r_50 u_49 H1 locs hp hw51 => ?_)
                            generalize H1 = H at hw51 ⊢
                            have hw52 : WD D A s.heap (MW cI cJ M mr mi (va_up mf 59 g_35) mg) H locs := hw51
                            obtain ⟨hp_53, hp_54⟩ := hp
                            have hp_53 : 0 ≤ r_50.toInt := hp_53
                            have hp_54 : r_50.toInt + 1 ≤ (mi 6).toInt := hp_54
                            refine lv_iload (pc := 128) E.1 E.2.1 dX12_findsPlans_128 (lv_at hl38 0 rfl) ?_
                            refine cm_i (pc := 130) hw52 (rn_M (As := [.int x_15, .int x_23, .int r_50, .int x_34]) (rest := [.int r_45, .ref (mr 59)]) E hw52 (s_byStep l D cI cJ _ M mr mi (va_up mf 59 g_35) mg x_15 x_23 r_50 x_34 (by show 0 ≤ x_15.toInt; omega) (by show x_15.toInt ≤ 9; omega) hi_24_0 (by show x_23.toInt ≤ 9; omega) hp_53 (by show r_50.toInt ≤ 9; omega) hi_35_0 (by show x_34.toInt ≤ 1023; omega) h4) (gdV q_2002 q_2004 q_127 q_162 q_2005) hdV_X12_byStep ⟨rfl, rfl⟩ ⟨(Nat.le_of_ble_eq_true rfl), (Nat.le_of_ble_eq_true rfl)⟩ ⟨(Nat.le_of_ble_eq_true rfl), (Nat.le_of_ble_eq_true rfl)⟩ 12 rfl rfl rfl rfl hl38.1 rfl (Nat.le_of_ble_eq_true rfl) dX12_findsPlans_130) (fun r_56 u_55 H1 locs hp hw57 => ?_)
                            generalize H1 = H at hw57 ⊢
                            have hw58 : WD D A s.heap (MW cI cJ M mr mi (va_up mf 59 g_35) mg) H locs := hw57
                            refine x_iastG (pc := 133) (f := g_35) (wf := fun g => (MW cI cJ M mr mi (va_up mf 59 g) mg)) E hw58 31 rfl (inbE (a := r_45.toInt) rfl (by omega)) (fun _ => rfl) dX12_findsPlans_133 (fun g_59 H locs eg_59 hw60 => ?_)
                            obtain ⟨v_61, ev_61⟩ : ∃ z : Int32, x_34 + Int32.ofInt (1) = z := ⟨_, rfl⟩
                            have hv_61 : v_61.toInt = x_34.toInt + (1) := by rw [← ev_61]; exact incE rfl (by decide) (by omega)
                            refine lv_iinc (pc := 134) (v := v_61) (lv' := [(4, .int v_61), (3, .int x_23), (2, .int x_15), (0, .ref M), (1, .int z_n)]) E.1 E.2.1 dX12_findsPlans_134 hl38 (k := 0) rfl ev_61 (by decide) rfl (fun ls hl62 => ?_)
                            refine lv_goto (pc := 137) (tgt := 85) E.1 E.2.1 dX12_findsPlans_137 (by decide) ?_
                            exact ih_36 v_61 g_59 _ _ _ ⟨(by show 0 ≤ v_61.toInt; omega), (by show v_61.toInt ≤ 1024; omega)⟩ (by omega) hw60 (lv_sub hl62 [0, 1, 2, 3, 4] rfl)
                      exact loop_33 (Int.toNat (1024 - 0) + 1) 0 g_24 _ _ _ ⟨(by show 0 ≤ (0 : Int32).toInt; have k_0 : (0 : Int32).toInt = 0 := (by decide +kernel); omega), (by show (0 : Int32).toInt ≤ 1024; have k_0 : (0 : Int32).toInt = 0 := (by decide +kernel); omega)⟩ (by have k_0 : (0 : Int32).toInt = 0 := (by decide +kernel); omega) hw26 (lv_sub hl32 [0, 1, 2, 3, 4] rfl)
                    · skip
                      have hc_31 := eqE (a := x_15.toInt) (b := 0) rfl (by decide +kernel) c_31
                      refine lv_iload_n (pc := 69) E.1 E.2.1 dX12_findsPlans_69 rfl (lv_at hl27 0 rfl) ?_
                      refine lv_aload_n (pc := 70) E.1 E.2.1 dX12_findsPlans_70 rfl (lv_at hl27 2 rfl) ?_
                      refine x_get (pc := 71) (T := TX12) (N := 70) (ci := 12) (v := .ref (mr 1)) E hw26 inX12 0 1 q_1400 rfl rfl (by decide) rfl rfl dX12_findsPlans_71 ?_
                      refine lv_iconst (pc := 74) (v := 3) E.1 E.2.1 dX12_findsPlans_74 (by decide +kernel) ?_
                      refine x_iald (pc := 75) (f := (mf 1)) E hw26 1 rfl (inbE (a := 3) (by decide +kernel) (by omega)) dX12_findsPlans_75 ?_
                      refine lv_topi (fun v_63 ev_63 => ?_)
                      have hv_63 : v_63.toInt = ((mf 1) 3).toInt := by rw [ev_63]; rfl
                      refine lv_icmp_eq (pc := 76) (tgt := 82) E.1 E.2.1 dX12_findsPlans_76 (by decide) (fun c_64 => ?_) (fun c_64 => ?_)
                      · skip
                        have hc_64 := eqE (a := x_23.toInt) (b := v_63.toInt) rfl rfl c_64
                        refine lv_iconst (pc := 82) (v := 0) E.1 E.2.1 dX12_findsPlans_82 (by decide +kernel) ?_
                        refine lv_istore (pc := 83) (lv' := [(4, .int 0), (3, .int x_23), (2, .int x_15), (0, .ref M), (1, .int z_n)]) E.1 E.2.1 dX12_findsPlans_83 hl27 (by decide) rfl (fun ls hl65 => ?_)
                        have loop_66 : ∀ (k : Nat) (x_67 : Int32) (g_68 : Nat → Int32) (H : Heap) (locs : List Loc) (ls : Array Slot), (0 ≤ x_67.toInt) ∧ (x_67.toInt ≤ 1024) → 1024 - x_67.toInt < (k : Int) → WD D A s.heap (MW cI cJ M mr mi (va_up mf 59 g_68) mg) H locs → lv_has ls 5 [(4, .int x_67), (3, .int x_23), (2, .int x_15), (0, .ref M), (1, .int z_n)] → W p l e ({ frames := 5, cells := 0, slots := 0, locals := 141 } : Room) s m ([.ref M, .int z_n] : List Value).toArray below meth c H locs 0 0 (MQ below (va_Qv (fun (u : (Nat → Int32)) => True) (fun u => QW D cI cJ A ((fun (u : (Nat → Int32)) => (MW cI cJ M mr mi (va_up mf 59 u) mg)) u)) A) ([.ref M, .int z_n] : List Value).toArray s 0 0 A) (F0 m 85 ls []) := by
                          intro k
                          induction k with
                          | zero =>
                            intro x_67 g_68 _ _ _ hinv hm
                            obtain ⟨hi_68_0, hi_68_1⟩ := hinv
                            exact absurd hm (by omega)
                          | succ k ih_69 =>
                            intro x_67 g_68 H locs ls hinv hm hw70 hl71
                            obtain ⟨hi_68_0, hi_68_1⟩ := hinv
                            refine lv_iload (pc := 85) E.1 E.2.1 dX12_findsPlans_85 (lv_at hl71 0 rfl) ?_
                            refine lv_iconst (pc := 87) (v := 1) E.1 E.2.1 dX12_findsPlans_87 (by decide +kernel) ?_
                            refine lv_aload_n (pc := 88) E.1 E.2.1 dX12_findsPlans_88 rfl (lv_at hl71 3 rfl) ?_
                            refine x_get (pc := 89) (T := TX12) (N := 70) (ci := 12) (v := .int (mi 44)) E hw70 inX12 0 44 q_1443 rfl rfl (by decide) rfl rfl dX12_findsPlans_89 ?_
                            refine lv_ishl (pc := 92) E.1 E.2.1 dX12_findsPlans_92 ?_
                            refine lv_topi (fun v_72 ev_72 => ?_)
                            have hb1v_72 : 1 ≤ v_72.toInt ∧ v_72.toInt ≤ 1024 := by rw [ev_72]; exact shl10 (by omega)
                            refine lv_icmp_ge (pc := 93) (tgt := 140) E.1 E.2.1 dX12_findsPlans_93 (by decide) (fun c_73 => ?_) (fun c_73 => ?_)
                            · skip
                              have hc_73 := leE (a := v_72.toInt) (b := x_67.toInt) rfl rfl c_73
                              obtain ⟨v_74, ev_74⟩ : ∃ z : Int32, x_23 + Int32.ofInt (1) = z := ⟨_, rfl⟩
                              have hv_74 : v_74.toInt = x_23.toInt + (1) := by rw [← ev_74]; exact incE rfl (by decide) (by omega)
                              refine lv_iinc (pc := 140) (v := v_74) (lv' := [(3, .int v_74), (4, .int x_67), (2, .int x_15), (0, .ref M), (1, .int z_n)]) E.1 E.2.1 dX12_findsPlans_140 hl71 (k := 1) rfl ev_74 (by decide) rfl (fun ls hl75 => ?_)
                              refine lv_goto (pc := 143) (tgt := 57) E.1 E.2.1 dX12_findsPlans_143 (by decide) ?_
                              exact ih_25 v_74 g_68 _ _ _ ⟨(by show 0 ≤ v_74.toInt; omega), (by show v_74.toInt ≤ (mi 6).toInt; omega)⟩ (by omega) hw70 (lv_sub hl75 [0, 2, 3, 4] rfl)
                            · skip
                              have hc_73 := nleE (a := v_72.toInt) (b := x_67.toInt) rfl rfl c_73
                              refine lv_iload_n (pc := 96) E.1 E.2.1 dX12_findsPlans_96 rfl (lv_at hl71 2 rfl) ?_
                              refine lv_if_gt (pc := 97) (tgt := 105) E.1 E.2.1 dX12_findsPlans_97 (by decide) (fun c_76 => absurd c_76 (mnltE (a := 0) (b := x_15.toInt) (by decide +kernel) rfl (by omega))) (fun _ => ?_)
                              refine lv_iload (pc := 100) E.1 E.2.1 dX12_findsPlans_100 (lv_at hl71 0 rfl) ?_
                              refine lv_if_ne (pc := 102) (tgt := 134) E.1 E.2.1 dX12_findsPlans_102 (by decide) (fun c_77 => ?_) (fun c_77 => ?_)
                              · skip
                                have hc_77 := neE (a := x_67.toInt) (b := 0) rfl (by decide +kernel) c_77
                                obtain ⟨v_78, ev_78⟩ : ∃ z : Int32, x_67 + Int32.ofInt (1) = z := ⟨_, rfl⟩
                                have hv_78 : v_78.toInt = x_67.toInt + (1) := by rw [← ev_78]; exact incE rfl (by decide) (by omega)
                                refine lv_iinc (pc := 134) (v := v_78) (lv' := [(4, .int v_78), (3, .int x_23), (2, .int x_15), (0, .ref M), (1, .int z_n)]) E.1 E.2.1 dX12_findsPlans_134 hl71 (k := 0) rfl ev_78 (by decide) rfl (fun ls hl79 => ?_)
                                refine lv_goto (pc := 137) (tgt := 85) E.1 E.2.1 dX12_findsPlans_137 (by decide) ?_
                                exact ih_69 v_78 g_68 _ _ _ ⟨(by show 0 ≤ v_78.toInt; omega), (by show v_78.toInt ≤ 1024; omega)⟩ (by omega) hw70 (lv_sub hl79 [0, 1, 2, 3, 4] rfl)
                              · skip
                                have hc_77 := eqE (a := x_67.toInt) (b := 0) rfl (by decide +kernel) c_77
                                refine lv_aload_n (pc := 105) E.1 E.2.1 dX12_findsPlans_105 rfl (lv_at hl71 3 rfl) ?_
                                refine x_get (pc := 106) (T := TX12) (N := 70) (ci := 12) (v := .ref (mr 59)) E hw70 inX12 0 59 q_1458 rfl rfl (by decide) rfl rfl dX12_findsPlans_106 ?_
                                refine lv_aload_n (pc := 109) E.1 E.2.1 dX12_findsPlans_109 rfl (lv_at hl71 3 rfl) ?_
                                refine lv_iload_n (pc := 110) E.1 E.2.1 dX12_findsPlans_110 rfl (lv_at hl71 2 rfl) ?_
                                refine lv_iload_n (pc := 111) E.1 E.2.1 dX12_findsPlans_111 rfl (lv_at hl71 1 rfl) ?_
                                refine lv_iload (pc := 112) E.1 E.2.1 dX12_findsPlans_112 (lv_at hl71 0 rfl) ?_
                                refine cm_i (pc := 114) hw70 (rn_M (As := [.int x_15, .int x_23, .int x_67]) (rest := [.ref (mr 59)]) E hw70 (s_planAt l D cI cJ _ M mr mi (va_up mf 59 g_68) mg x_15 x_23 x_67 (by show 0 ≤ x_15.toInt; omega) (by show x_15.toInt ≤ 10; omega) hi_24_0 (by show x_23.toInt ≤ 9; omega) hi_68_0 (by show x_67.toInt ≤ 1023; omega)) (gdV q_1994 q_1996 q_125 q_162 q_1997) hdV_X12_planAt ⟨rfl, rfl⟩ ⟨(Nat.le_of_ble_eq_true rfl), (Nat.le_of_ble_eq_true rfl)⟩ ⟨(Nat.le_of_ble_eq_true rfl), (Nat.le_of_ble_eq_true rfl)⟩ 12 rfl rfl rfl rfl hl71.1 rfl (Nat.le_of_ble_eq_true rfl) dX12_findsPlans_114) (fun r_81 u_80 H1 locs hp hw82 => ?_)
                                generalize H1 = H at hw82 ⊢
                                have hw83 : WD D A s.heap (MW cI cJ M mr mi (va_up mf 59 g_68) mg) H locs := hw82
                                have hp_84 := hp
                                have hp_84 : r_81.toInt = 10240 * x_15.toInt + 1024 * x_23.toInt + x_67.toInt := hp_84
                                refine lv_aload_n (pc := 117) E.1 E.2.1 dX12_findsPlans_117 rfl (lv_at hl71 3 rfl) ?_
                                refine lv_iload_n (pc := 118) E.1 E.2.1 dX12_findsPlans_118 rfl (lv_at hl71 2 rfl) ?_
                                refine lv_iload_n (pc := 119) E.1 E.2.1 dX12_findsPlans_119 rfl (lv_at hl71 1 rfl) ?_
                                refine lv_aload_n (pc := 120) E.1 E.2.1 dX12_findsPlans_120 rfl (lv_at hl71 3 rfl) ?_
                                refine lv_iload_n (pc := 121) E.1 E.2.1 dX12_findsPlans_121 rfl (lv_at hl71 2 rfl) ?_
                                refine lv_iload_n (pc := 122) E.1 E.2.1 dX12_findsPlans_122 rfl (lv_at hl71 1 rfl) ?_
                                refine lv_iload (pc := 123) E.1 E.2.1 dX12_findsPlans_123 (lv_at hl71 0 rfl) ?_
                                refine cm_i (pc := 125) hw83 (rn_M (As := [.int x_15, .int x_23, .int x_67]) (rest := [.int x_23, .int x_15, .ref M, .int r_81, .ref (mr 59)]) E hw83 (s_bestStep l D cI cJ _ M mr mi (va_up mf 59 g_68) mg x_15 x_23 x_67 (by show 0 ≤ x_15.toInt; omega) (by show x_15.toInt ≤ 9; omega) hi_24_0 (by show x_23.toInt + 1 ≤ (mi 6).toInt; omega) h3 hi_68_0 (by show x_67.toInt ≤ 1023; omega) h4) (gdV q_1998 q_2000 q_126 q_162 q_2001) hdV_X12_bestStep ⟨rfl, rfl⟩ ⟨(Nat.le_of_ble_eq_true rfl), (Nat.le_of_ble_eq_true rfl)⟩ ⟨(Nat.le_of_ble_eq_true rfl), (Nat.le_of_ble_eq_true rfl)⟩ 12 rfl rfl rfl rfl hl71.1 rfl (Nat.le_of_ble_eq_true rfl) dX12_findsPlans_125) (fun r_86 u_85 H1 locs hp hw87 => ?_)
                                generalize H1 = H at hw87 ⊢
                                have hw88 : WD D A s.heap (MW cI cJ M mr mi (va_up mf 59 g_68) mg) H locs := hw87
                                obtain ⟨hp_89, hp_90⟩ := hp
                                have hp_89 : 0 ≤ r_86.toInt := hp_89
                                have hp_90 : r_86.toInt + 1 ≤ (mi 6).toInt := hp_90
                                refine lv_iload (pc := 128) E.1 E.2.1 dX12_findsPlans_128 (lv_at hl71 0 rfl) ?_
                                refine cm_i (pc := 130) hw88 (rn_M (As := [.int x_15, .int x_23, .int r_86, .int x_67]) (rest := [.int r_81, .ref (mr 59)]) E hw88 (s_byStep l D cI cJ _ M mr mi (va_up mf 59 g_68) mg x_15 x_23 r_86 x_67 (by show 0 ≤ x_15.toInt; omega) (by show x_15.toInt ≤ 9; omega) hi_24_0 (by show x_23.toInt ≤ 9; omega) hp_89 (by show r_86.toInt ≤ 9; omega) hi_68_0 (by show x_67.toInt ≤ 1023; omega) h4) (gdV q_2002 q_2004 q_127 q_162 q_2005) hdV_X12_byStep ⟨rfl, rfl⟩ ⟨(Nat.le_of_ble_eq_true rfl), (Nat.le_of_ble_eq_true rfl)⟩ ⟨(Nat.le_of_ble_eq_true rfl), (Nat.le_of_ble_eq_true rfl)⟩ 12 rfl rfl rfl rfl hl71.1 rfl (Nat.le_of_ble_eq_true rfl) dX12_findsPlans_130) (fun r_92 u_91 H1 locs hp hw93 => ?_)
                                generalize H1 = H at hw93 ⊢
                                have hw94 : WD D A s.heap (MW cI cJ M mr mi (va_up mf 59 g_68) mg) H locs := hw93
                                refine x_iastG (pc := 133) (f := g_68) (wf := fun g => (MW cI cJ M mr mi (va_up mf 59 g) mg)) E hw94 31 rfl (inbE (a := r_81.toInt) rfl (by omega)) (fun _ => rfl) dX12_findsPlans_133 (fun g_95 H locs eg_95 hw96 => ?_)
                                obtain ⟨v_97, ev_97⟩ : ∃ z : Int32, x_67 + Int32.ofInt (1) = z := ⟨_, rfl⟩
                                have hv_97 : v_97.toInt = x_67.toInt + (1) := by rw [← ev_97]; exact incE rfl (by decide) (by omega)
                                refine lv_iinc (pc := 134) (v := v_97) (lv' := [(4, .int v_97), (3, .int x_23), (2, .int x_15), (0, .ref M), (1, .int z_n)]) E.1 E.2.1 dX12_findsPlans_134 hl71 (k := 0) rfl ev_97 (by decide) rfl (fun ls hl98 => ?_)
                                refine lv_goto (pc := 137) (tgt := 85) E.1 E.2.1 dX12_findsPlans_137 (by decide) ?_
                                exact ih_69 v_97 g_95 _ _ _ ⟨(by show 0 ≤ v_97.toInt; omega), (by show v_97.toInt ≤ 1024; omega)⟩ (by omega) hw96 (lv_sub hl98 [0, 1, 2, 3, 4] rfl)
                        exact loop_66 (Int.toNat (1024 - 0) + 1) 0 g_24 _ _ _ ⟨(by show 0 ≤ (0 : Int32).toInt; have k_0 : (0 : Int32).toInt = 0 := (by decide +kernel); omega), (by show (0 : Int32).toInt ≤ 1024; have k_0 : (0 : Int32).toInt = 0 := (by decide +kernel); omega)⟩ (by have k_0 : (0 : Int32).toInt = 0 := (by decide +kernel); omega) hw26 (lv_sub hl65 [0, 1, 2, 3, 4] rfl)
                      · skip
                        have hc_64 := neE (a := x_23.toInt) (b := v_63.toInt) rfl rfl c_64
                        refine lv_goto (pc := 79) (tgt := 140) E.1 E.2.1 dX12_findsPlans_79 (by decide) ?_
                        obtain ⟨v_99, ev_99⟩ : ∃ z : Int32, x_23 + Int32.ofInt (1) = z := ⟨_, rfl⟩
                        have hv_99 : v_99.toInt = x_23.toInt + (1) := by rw [← ev_99]; exact incE rfl (by decide) (by omega)
                        refine lv_iinc (pc := 140) (v := v_99) (lv' := [(3, .int v_99), (2, .int x_15), (0, .ref M), (1, .int z_n)]) E.1 E.2.1 dX12_findsPlans_140 hl27 (k := 0) rfl ev_99 (by decide) rfl (fun ls hl100 => ?_)
                        refine lv_goto (pc := 143) (tgt := 57) E.1 E.2.1 dX12_findsPlans_143 (by decide) ?_
                        exact ih_25 v_99 g_24 _ _ _ ⟨(by show 0 ≤ v_99.toInt; omega), (by show v_99.toInt ≤ (mi 6).toInt; omega)⟩ (by omega) hw26 (lv_sub hl100 [0, 1, 2, 3] rfl)
              exact loop_22 (Int.toNat ((mi 6).toInt - 0) + 1) 0 g_16 _ _ _ ⟨(by show 0 ≤ (0 : Int32).toInt; have k_0 : (0 : Int32).toInt = 0 := (by decide +kernel); omega), (by show (0 : Int32).toInt ≤ (mi 6).toInt; have k_0 : (0 : Int32).toInt = 0 := (by decide +kernel); omega)⟩ (by have k_0 : (0 : Int32).toInt = 0 := (by decide +kernel); omega) hw18 (lv_sub hl21 [0, 1, 2, 3] rfl)
        exact loop_14 (Int.toNat (v_12.toInt + 1) + 1) v_12 g_7 _ _ _ ⟨(by show (-1) ≤ v_12.toInt; omega), (by show v_12.toInt ≤ z_n.toInt - 1; omega)⟩ (by omega) hw9 (lv_sub hl13 [0, 1, 2] rfl)
      · skip
        have hc_11 := nleE (a := (mi 6).toInt) (b := x_6.toInt) rfl rfl c_11
        refine lv_iconst (pc := 10) (v := 0) E.1 E.2.1 dX12_findsPlans_10 (by decide +kernel) ?_
        refine lv_istore_n (pc := 11) (lv' := [(3, .int 0), (2, .int x_6), (0, .ref M), (1, .int z_n)]) E.1 E.2.1 dX12_findsPlans_11 rfl hl10 (by decide) rfl (fun ls hl101 => ?_)
        have loop_102 : ∀ (k : Nat) (x_103 : Int32) (g_104 : Nat → Int32) (H : Heap) (locs : List Loc) (ls : Array Slot), (0 ≤ x_103.toInt) ∧ (x_103.toInt ≤ 1024) → 1024 - x_103.toInt < (k : Int) → WD D A s.heap (MW cI cJ M mr mi (va_up mf 59 g_104) mg) H locs → lv_has ls 5 [(3, .int x_103), (2, .int x_6), (0, .ref M), (1, .int z_n)] → W p l e ({ frames := 5, cells := 0, slots := 0, locals := 141 } : Room) s m ([.ref M, .int z_n] : List Value).toArray below meth c H locs 0 0 (MQ below (va_Qv (fun (u : (Nat → Int32)) => True) (fun u => QW D cI cJ A ((fun (u : (Nat → Int32)) => (MW cI cJ M mr mi (va_up mf 59 u) mg)) u)) A) ([.ref M, .int z_n] : List Value).toArray s 0 0 A) (F0 m 12 ls []) := by
          intro k
          induction k with
          | zero =>
            intro x_103 g_104 _ _ _ hinv hm
            obtain ⟨hi_104_0, hi_104_1⟩ := hinv
            exact absurd hm (by omega)
          | succ k ih_105 =>
            intro x_103 g_104 H locs ls hinv hm hw106 hl107
            obtain ⟨hi_104_0, hi_104_1⟩ := hinv
            refine lv_iload_n (pc := 12) E.1 E.2.1 dX12_findsPlans_12 rfl (lv_at hl107 0 rfl) ?_
            refine lv_iconst (pc := 13) (v := 1) E.1 E.2.1 dX12_findsPlans_13 (by decide +kernel) ?_
            refine lv_aload_n (pc := 14) E.1 E.2.1 dX12_findsPlans_14 rfl (lv_at hl107 2 rfl) ?_
            refine x_get (pc := 15) (T := TX12) (N := 70) (ci := 12) (v := .int (mi 44)) E hw106 inX12 0 44 q_1443 rfl rfl (by decide) rfl rfl dX12_findsPlans_15 ?_
            refine lv_ishl (pc := 18) E.1 E.2.1 dX12_findsPlans_18 ?_
            refine lv_topi (fun v_108 ev_108 => ?_)
            have hb1v_108 : 1 ≤ v_108.toInt ∧ v_108.toInt ≤ 1024 := by rw [ev_108]; exact shl10 (by omega)
            refine lv_icmp_ge (pc := 19) (tgt := 41) E.1 E.2.1 dX12_findsPlans_19 (by decide) (fun c_109 => ?_) (fun c_109 => ?_)
            · skip
              have hc_109 := leE (a := v_108.toInt) (b := x_103.toInt) rfl rfl c_109
              obtain ⟨v_110, ev_110⟩ : ∃ z : Int32, x_6 + Int32.ofInt (1) = z := ⟨_, rfl⟩
              have hv_110 : v_110.toInt = x_6.toInt + (1) := by rw [← ev_110]; exact incE rfl (by decide) (by omega)
              refine lv_iinc (pc := 41) (v := v_110) (lv' := [(2, .int v_110), (3, .int x_103), (0, .ref M), (1, .int z_n)]) E.1 E.2.1 dX12_findsPlans_41 hl107 (k := 1) rfl ev_110 (by decide) rfl (fun ls hl111 => ?_)
              refine lv_goto (pc := 44) (tgt := 2) E.1 E.2.1 dX12_findsPlans_44 (by decide) ?_
              exact ih_8 v_110 g_104 _ _ _ ⟨(by show 0 ≤ v_110.toInt; omega), (by show v_110.toInt ≤ (mi 6).toInt; omega)⟩ (by omega) hw106 (lv_sub hl111 [0, 2, 3] rfl)
            · skip
              have hc_109 := nleE (a := v_108.toInt) (b := x_103.toInt) rfl rfl c_109
              refine lv_aload_n (pc := 22) E.1 E.2.1 dX12_findsPlans_22 rfl (lv_at hl107 2 rfl) ?_
              refine x_get (pc := 23) (T := TX12) (N := 70) (ci := 12) (v := .ref (mr 59)) E hw106 inX12 0 59 q_1458 rfl rfl (by decide) rfl rfl dX12_findsPlans_23 ?_
              refine lv_aload_n (pc := 26) E.1 E.2.1 dX12_findsPlans_26 rfl (lv_at hl107 2 rfl) ?_
              refine lv_iload_n (pc := 27) E.1 E.2.1 dX12_findsPlans_27 rfl (lv_at hl107 3 rfl) ?_
              refine lv_iload_n (pc := 28) E.1 E.2.1 dX12_findsPlans_28 rfl (lv_at hl107 1 rfl) ?_
              refine lv_iload_n (pc := 29) E.1 E.2.1 dX12_findsPlans_29 rfl (lv_at hl107 0 rfl) ?_
              refine cm_i (pc := 30) hw106 (rn_M (As := [.int z_n, .int x_6, .int x_103]) (rest := [.ref (mr 59)]) E hw106 (s_planAt l D cI cJ _ M mr mi (va_up mf 59 g_104) mg z_n x_6 x_103 (by show 0 ≤ z_n.toInt; omega) h0.2 hi_7_0 (by show x_6.toInt ≤ 9; omega) hi_104_0 (by show x_103.toInt ≤ 1023; omega)) (gdV q_1994 q_1996 q_125 q_162 q_1997) hdV_X12_planAt ⟨rfl, rfl⟩ ⟨(Nat.le_of_ble_eq_true rfl), (Nat.le_of_ble_eq_true rfl)⟩ ⟨(Nat.le_of_ble_eq_true rfl), (Nat.le_of_ble_eq_true rfl)⟩ 12 rfl rfl rfl rfl hl107.1 rfl (Nat.le_of_ble_eq_true rfl) dX12_findsPlans_30) (fun r_113 u_112 H1 locs hp hw114 => ?_)
              generalize H1 = H at hw114 ⊢
              have hw115 : WD D A s.heap (MW cI cJ M mr mi (va_up mf 59 g_104) mg) H locs := hw114
              have hp_116 := hp
              have hp_116 : r_113.toInt = 10240 * z_n.toInt + 1024 * x_6.toInt + x_103.toInt := hp_116
              refine lv_iconst (pc := 33) (v := 0) E.1 E.2.1 dX12_findsPlans_33 (by decide +kernel) ?_
              refine x_iastG (pc := 34) (f := g_104) (wf := fun g => (MW cI cJ M mr mi (va_up mf 59 g) mg)) E hw115 31 rfl (inbE (a := r_113.toInt) rfl (by omega)) (fun _ => rfl) dX12_findsPlans_34 (fun g_117 H locs eg_117 hw118 => ?_)
              obtain ⟨v_119, ev_119⟩ : ∃ z : Int32, x_103 + Int32.ofInt (1) = z := ⟨_, rfl⟩
              have hv_119 : v_119.toInt = x_103.toInt + (1) := by rw [← ev_119]; exact incE rfl (by decide) (by omega)
              refine lv_iinc (pc := 35) (v := v_119) (lv' := [(3, .int v_119), (2, .int x_6), (0, .ref M), (1, .int z_n)]) E.1 E.2.1 dX12_findsPlans_35 hl107 (k := 0) rfl ev_119 (by decide) rfl (fun ls hl120 => ?_)
              refine lv_goto (pc := 38) (tgt := 12) E.1 E.2.1 dX12_findsPlans_38 (by decide) ?_
              exact ih_105 v_119 g_117 _ _ _ ⟨(by show 0 ≤ v_119.toInt; omega), (by show v_119.toInt ≤ 1024; omega)⟩ (by omega) hw118 (lv_sub hl120 [0, 1, 2, 3] rfl)
        exact loop_102 (Int.toNat (1024 - 0) + 1) 0 g_7 _ _ _ ⟨(by show 0 ≤ (0 : Int32).toInt; have k_0 : (0 : Int32).toInt = 0 := (by decide +kernel); omega), (by show (0 : Int32).toInt ≤ 1024; have k_0 : (0 : Int32).toInt = 0 := (by decide +kernel); omega)⟩ (by have k_0 : (0 : Int32).toInt = 0 := (by decide +kernel); omega) hw9 (lv_sub hl101 [0, 1, 2, 3] rfl)
  exact loop_5 (Int.toNat ((mi 6).toInt - 0) + 1) 0 (mf 59) _ _ _ ⟨(by show 0 ≤ (0 : Int32).toInt; have k_0 : (0 : Int32).toInt = 0 := (by decide +kernel); omega), (by show (0 : Int32).toInt ≤ (mi 6).toInt; have k_0 : (0 : Int32).toInt = 0 := (by decide +kernel); omega)⟩ (by have k_0 : (0 : Int32).toInt = 0 := (by decide +kernel); omega) hw1 (lv_sub hl4 [0, 1, 2] rfl)

