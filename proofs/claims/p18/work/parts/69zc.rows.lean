set_option maxHeartbeats 4000000 in
set_option maxRecDepth 100000 in
theorem t_of (l : Launch) (D : va_G) (cI cJ : ClassId) (sz : Nat) (mr : Nat → Nat) (mi : Nat → Int32) (mf : Nat → Nat → Int32) (mg : Nat → Nat → Int64) (z_house : Int32) (z_what : Int32) (mv : Nat → Value) (h0 : 0 ≤ (mi 1).toInt ∧ (mi 1).toInt ≤ 5) (h1 : 0 ≤ (mi 2).toInt ∧ (mi 2).toInt ≤ 6) (h2 : 0 ≤ (mi 24).toInt ∧ (mi 24).toInt ≤ 200) (h3 : 0 ≤ (mi 32).toInt ∧ (mi 32).toInt ≤ 10) (h4 : 0 ≤ (mi 40).toInt ∧ (mi 40).toInt ≤ 40) (h5 : 0 ≤ (mi 49).toInt ∧ (mi 49).toInt ≤ 10) (h6 : 0 ≤ (mi 72).toInt ∧ (mi 72).toInt ≤ 200) (h7 : 0 ≤ (mi 79).toInt ∧ (mi 79).toInt ≤ 8) (a_p_from : p9 (mf 36)) (a_p_to : p9 (mf 37)) (a_t_marks : m4 (mf 53)) (a_u_marks : m4 (mf 63)) : Met l yX11_of (Cond.code yX11_of cX11_of 4 (some .int) :: GW) ({ frames := 11, cells := 0, slots := 0, locals := 263 } : Room) (va_Pc [.ref (mr 0), .int z_house, .int z_what] (PW D cI cJ sz (WZ_MV cI cJ mv mr mi mf mg) xT)) (va_Qi (fun (r : Int32) (u : (Nat → Int32) × (Nat → Nat → Int32) × (Nat → Nat → Int64)) => (0 ≤ (u.1 1).toInt) ∧ ((u.1 1).toInt ≤ 5) ∧ (0 ≤ (u.1 2).toInt) ∧ ((u.1 2).toInt ≤ 6) ∧ (0 ≤ (u.1 24).toInt) ∧ ((u.1 24).toInt ≤ 200) ∧ (0 ≤ (u.1 32).toInt) ∧ ((u.1 32).toInt ≤ 10) ∧ (0 ≤ (u.1 40).toInt) ∧ ((u.1 40).toInt ≤ 40) ∧ (0 ≤ (u.1 49).toInt) ∧ ((u.1 49).toInt ≤ 10) ∧ (0 ≤ (u.1 72).toInt) ∧ ((u.1 72).toInt ≤ 200) ∧ (0 ≤ (u.1 79).toInt) ∧ ((u.1 79).toInt ≤ 8) ∧ ((u.1 32).toInt = (mi 32).toInt) ∧ ((u.1 79).toInt = (mi 79).toInt) ∧ (p9 (u.2.1 36)) ∧ (p9 (u.2.1 37)) ∧ (m4 (u.2.1 53)) ∧ (m4 (u.2.1 63)) ∧ ((Eq (mf 27)) (u.2.1 27)) ∧ ((Eq (mf 31)) (u.2.1 31))) (fun u => QW D cI cJ (va_A (WZ_MV cI cJ mv mr mi mf mg) sz) ((fun (u : (Nat → Int32) × (Nat → Nat → Int32) × (Nat → Nat → Int64)) => (WZ_MV cI cJ mv mr u.1 u.2.1 u.2.2)) u)) (va_A (WZ_MV cI cJ mv mr mi mf mg) sz)) 0 0 (va_A (WZ_MV cI cJ mv mr mi mf mg) sz) := by
  refine mk_met (y := yX11_of) (bytes := cX11_of) (maxL := 4) (avs := [.ref (mr 0), .int z_house, .int z_what]) (WS := (WZ_MV cI cJ mv mr mi mf mg)) (Qf := fun A => va_Qi (fun (r : Int32) (u : (Nat → Int32) × (Nat → Nat → Int32) × (Nat → Nat → Int64)) => (0 ≤ (u.1 1).toInt) ∧ ((u.1 1).toInt ≤ 5) ∧ (0 ≤ (u.1 2).toInt) ∧ ((u.1 2).toInt ≤ 6) ∧ (0 ≤ (u.1 24).toInt) ∧ ((u.1 24).toInt ≤ 200) ∧ (0 ≤ (u.1 32).toInt) ∧ ((u.1 32).toInt ≤ 10) ∧ (0 ≤ (u.1 40).toInt) ∧ ((u.1 40).toInt ≤ 40) ∧ (0 ≤ (u.1 49).toInt) ∧ ((u.1 49).toInt ≤ 10) ∧ (0 ≤ (u.1 72).toInt) ∧ ((u.1 72).toInt ≤ 200) ∧ (0 ≤ (u.1 79).toInt) ∧ ((u.1 79).toInt ≤ 8) ∧ ((u.1 32).toInt = (mi 32).toInt) ∧ ((u.1 79).toInt = (mi 79).toInt) ∧ (p9 (u.2.1 36)) ∧ (p9 (u.2.1 37)) ∧ (m4 (u.2.1 53)) ∧ (m4 (u.2.1 63)) ∧ ((Eq (mf 27)) (u.2.1 27)) ∧ ((Eq (mf 31)) (u.2.1 31))) (fun u => QW D cI cJ A ((fun (u : (Nat → Int32) × (Nat → Nat → Int32) × (Nat → Nat → Int64)) => (WZ_MV cI cJ mv mr u.1 u.2.1 u.2.2)) u)) A) (by decide) (Nat.le_of_ble_eq_true rfl) ?_
  intro p e s m below meth c A ls E hr hlk hnm hX hw1 hl2
  have hl3 : lv_has ls 4 [(0, .ref (mr 0)), (1, .int z_house), (2, .int z_what)] := hl2
  refine lv_aload_n (pc := 0) E.1 E.2.1 dX11_of_0 rfl (lv_at hl3 0 rfl) ?_
  refine x_get (pc := 1) (T := TX11) (N := 13) (ci := 11) (v := .ref (mr 3)) E hw1 inX11 0 0 q_606 rfl rfl (by decide) rfl rfl dX11_of_1 ?_
  refine x_get (pc := 4) (T := TX10) (N := 17) (ci := 10) (v := .ref (mr 26)) E hw1 inX10 1 1 q_463 rfl rfl (by decide) rfl rfl dX11_of_4 ?_
  refine lv_iload_n (pc := 7) E.1 E.2.1 dX11_of_7 rfl (lv_at hl3 1 rfl) ?_
  refine ck_i (pc := 8) (ws' := (fun (u : Unit) => (WZ_MV cI cJ mv mr mi mf mg))) [false, false, false, false, false, false, false, false, false, false, false, false, false, true, true, true, true, true, true, true, true, false, false, false, false, false, false, false, false, false, false, false, false, false, false, false, false, false, false, false, false, false, false, false, false, false, false, false, false, false, false] hw1 rfl (fun hC_ => (rn_V (As := [.int z_house]) (rest := []) E hw1 (t_has l D cI cJ _ (shf 26 mr) (shf 26 mi) (shf 26 mf) (shf 26 mg) z_house (vl [mv 10])) (gdV q_674 q_675 q_676 q_154 q_677) hdV_X1_has ⟨rfl, rfl⟩ ⟨(Nat.le_of_ble_eq_true rfl), (Nat.le_of_ble_eq_true rfl)⟩ ⟨(Nat.le_of_ble_eq_true rfl), (Nat.le_of_ble_eq_true rfl)⟩ xT_b xT_at 13 1 rfl rfl rfl _ hC_ (nd_T _ 0) rfl hl3.1 rfl (Nat.le_of_ble_eq_true rfl) dX11_of_8)) rfl (fun _ => rfl) (fun _ => rfl) (fun r_5 u_4 H1 locs hp hw6 => ?_)
  generalize H1 = H at hw6 ⊢
  have hw7 : WD D A s.heap (WZ_MV cI cJ mv mr mi mf mg) H locs := hw6
  have hp_8 := hp
  rcases hp_8 with ⟨rfl, ha_9, ha_10, ha_11⟩ | ⟨rfl, ha_12⟩ | ⟨rfl, ha_13⟩ | ⟨rfl, ha_14⟩
  · skip
    have ha_9 : 0 ≤ z_house.toInt := ha_9
    have ha_10 : z_house.toInt + 1 ≤ (mi 32).toInt := ha_10
    have ha_11 : z_house.toInt ≤ 9 := ha_11
    refine lv_if_ne (pc := 11) (tgt := 17) E.1 E.2.1 dX11_of_11 (by decide) (fun _ => ?_) (fun c_15 => absurd c_15 (mneE (a := 1) (b := 0) (by decide +kernel) (by decide +kernel) (by omega)))
    refine lv_aload_n (pc := 17) E.1 E.2.1 dX11_of_17 rfl (lv_at hl3 0 rfl) ?_
    refine x_get (pc := 18) (T := TX11) (N := 13) (ci := 11) (v := .ref (mr 3)) E hw7 inX11 0 0 q_606 rfl rfl (by decide) rfl rfl dX11_of_18 ?_
    refine x_get (pc := 21) (T := TX10) (N := 17) (ci := 10) (v := .ref (mr 13)) E hw7 inX10 1 0 q_458 rfl rfl (by decide) rfl rfl dX11_of_21 ?_
    refine lv_astore_n (pc := 24) (lv' := [(3, .ref (mr 13)), (0, .ref (mr 0)), (1, .int z_house), (2, .int z_what)]) E.1 E.2.1 dX11_of_24 rfl hl3 (by decide) rfl (fun ls hl16 => ?_)
    refine lv_iload_n (pc := 25) E.1 E.2.1 dX11_of_25 rfl (lv_at hl16 3 rfl) ?_
    rcases swt (x := z_what) 0 13 with hsw_17 | ⟨hsw_17k, hsw_171, hsw_172, hsw_17⟩
    · skip
      refine lv_tableOut (pc := 26) (tgt := 253) E.1 E.2.1 dX11_of_26 hsw_17 (by decide) ?_
      refine lv_ldc (pc := 253) (v := (-1000000)) E.1 E.2.1 E.2.2.2.1 (E.2.2.2.2.1 _ q_1104) dX11_of_253 ?_
      exact em_i (w1 := (fun (u : (Nat → Int32) × (Nat → Nat → Int32) × (Nat → Nat → Int64)) => (WZ_MV cI cJ mv mr u.1 u.2.1 u.2.2))) E hr hlk (mi, mf, mg) hw7 ⟨h0.1, h0.2, h1.1, h1.2, h2.1, h2.2, h3.1, h3.2, h4.1, h4.2, h5.1, h5.2, h6.1, h6.2, h7.1, h7.2, rfl, rfl, a_p_from, a_p_to, a_t_marks, a_u_marks, rfl, rfl⟩ (Nat.le_of_ble_eq_true rfl) (Nat.le_of_ble_eq_true rfl) dX11_of_255
    · skip
      rcases (show hsw_17k = 0 ∨ hsw_17k = 1 ∨ hsw_17k = 2 ∨ hsw_17k = 3 ∨ hsw_17k = 4 ∨ hsw_17k = 5 ∨ hsw_17k = 6 ∨ hsw_17k = 7 ∨ hsw_17k = 8 ∨ hsw_17k = 9 ∨ hsw_17k = 10 ∨ hsw_17k = 11 ∨ hsw_17k = 12 ∨ hsw_17k = 13 from by omega) with rfl | rfl | rfl | rfl | rfl | rfl | rfl | rfl | rfl | rfl | rfl | rfl | rfl | rfl
      · skip
        have hsw_17v : z_what.toInt = 0 := hsw_17
        have hsw_17e : z_what = 0 := Int32.toInt_inj.mp (by rw [hsw_17]; decide +kernel)
        refine lv_tableIn (pc := 26) (off := 70) (tgt := 96) E.1 E.2.1 dX11_of_26 (by rw [hsw_17e]; decide +kernel) (by rw [hsw_17e]; decide +kernel) (by rw [hsw_17e]; decide +kernel) (by decide) ?_
        refine lv_aload_n (pc := 96) E.1 E.2.1 dX11_of_96 rfl (lv_at hl16 1 rfl) ?_
        refine x_get (pc := 97) (T := TX11) (N := 13) (ci := 11) (v := .ref (mr 3)) E hw7 inX11 0 0 q_606 rfl rfl (by decide) rfl rfl dX11_of_97 ?_
        refine x_get (pc := 100) (T := TX10) (N := 17) (ci := 10) (v := .ref (mr 26)) E hw7 inX10 1 1 q_463 rfl rfl (by decide) rfl rfl dX11_of_100 ?_
        refine x_get (pc := 103) (T := TX1) (N := 9) (ci := 1) (v := .ref (mr 27)) E hw7 inX1 13 0 q_267 rfl rfl (by decide) rfl rfl dX11_of_103 ?_
        refine lv_iload_n (pc := 106) E.1 E.2.1 dX11_of_106 rfl (lv_at hl16 2 rfl) ?_
        refine x_iald (pc := 107) (f := (mf 27)) E hw7 14 rfl (inbE (a := z_house.toInt) rfl (by omega)) dX11_of_107 ?_
        refine lv_topi (fun v_18 ev_18 => ?_)
        exact em_i (w1 := (fun (u : (Nat → Int32) × (Nat → Nat → Int32) × (Nat → Nat → Int64)) => (WZ_MV cI cJ mv mr u.1 u.2.1 u.2.2))) E hr hlk (mi, mf, mg) hw7 ⟨h0.1, h0.2, h1.1, h1.2, h2.1, h2.2, h3.1, h3.2, h4.1, h4.2, h5.1, h5.2, h6.1, h6.2, h7.1, h7.2, rfl, rfl, a_p_from, a_p_to, a_t_marks, a_u_marks, rfl, rfl⟩ (Nat.le_of_ble_eq_true rfl) (Nat.le_of_ble_eq_true rfl) dX11_of_108
      · skip
        have hsw_17v : z_what.toInt = 1 := hsw_17
        have hsw_17e : z_what = 1 := Int32.toInt_inj.mp (by rw [hsw_17]; decide +kernel)
        refine lv_tableIn (pc := 26) (off := 83) (tgt := 109) E.1 E.2.1 dX11_of_26 (by rw [hsw_17e]; decide +kernel) (by rw [hsw_17e]; decide +kernel) (by rw [hsw_17e]; decide +kernel) (by decide) ?_
        refine lv_aload_n (pc := 109) E.1 E.2.1 dX11_of_109 rfl (lv_at hl16 1 rfl) ?_
        refine x_get (pc := 110) (T := TX11) (N := 13) (ci := 11) (v := .ref (mr 3)) E hw7 inX11 0 0 q_606 rfl rfl (by decide) rfl rfl dX11_of_110 ?_
        refine x_get (pc := 113) (T := TX10) (N := 17) (ci := 10) (v := .ref (mr 26)) E hw7 inX10 1 1 q_463 rfl rfl (by decide) rfl rfl dX11_of_113 ?_
        refine x_get (pc := 116) (T := TX1) (N := 9) (ci := 1) (v := .ref (mr 28)) E hw7 inX1 13 1 q_269 rfl rfl (by decide) rfl rfl dX11_of_116 ?_
        refine lv_iload_n (pc := 119) E.1 E.2.1 dX11_of_119 rfl (lv_at hl16 2 rfl) ?_
        refine x_iald (pc := 120) (f := (mf 28)) E hw7 15 rfl (inbE (a := z_house.toInt) rfl (by omega)) dX11_of_120 ?_
        refine lv_topi (fun v_19 ev_19 => ?_)
        exact em_i (w1 := (fun (u : (Nat → Int32) × (Nat → Nat → Int32) × (Nat → Nat → Int64)) => (WZ_MV cI cJ mv mr u.1 u.2.1 u.2.2))) E hr hlk (mi, mf, mg) hw7 ⟨h0.1, h0.2, h1.1, h1.2, h2.1, h2.2, h3.1, h3.2, h4.1, h4.2, h5.1, h5.2, h6.1, h6.2, h7.1, h7.2, rfl, rfl, a_p_from, a_p_to, a_t_marks, a_u_marks, rfl, rfl⟩ (Nat.le_of_ble_eq_true rfl) (Nat.le_of_ble_eq_true rfl) dX11_of_121
      · skip
        have hsw_17v : z_what.toInt = 2 := hsw_17
        have hsw_17e : z_what = 2 := Int32.toInt_inj.mp (by rw [hsw_17]; decide +kernel)
        refine lv_tableIn (pc := 26) (off := 96) (tgt := 122) E.1 E.2.1 dX11_of_26 (by rw [hsw_17e]; decide +kernel) (by rw [hsw_17e]; decide +kernel) (by rw [hsw_17e]; decide +kernel) (by decide) ?_
        refine lv_aload_n (pc := 122) E.1 E.2.1 dX11_of_122 rfl (lv_at hl16 0 rfl) ?_
        refine x_get (pc := 123) (T := TX4) (N := 12) (ci := 4) (v := .ref (mr 14)) E hw7 inX4 7 0 q_192 rfl rfl (by decide) rfl rfl dX11_of_123 ?_
        refine lv_iload_n (pc := 126) E.1 E.2.1 dX11_of_126 rfl (lv_at hl16 2 rfl) ?_
        refine x_iald (pc := 127) (f := (mf 14)) E hw7 8 rfl (inbE (a := z_house.toInt) rfl (by omega)) dX11_of_127 ?_
        refine lv_topi (fun v_20 ev_20 => ?_)
        exact em_i (w1 := (fun (u : (Nat → Int32) × (Nat → Nat → Int32) × (Nat → Nat → Int64)) => (WZ_MV cI cJ mv mr u.1 u.2.1 u.2.2))) E hr hlk (mi, mf, mg) hw7 ⟨h0.1, h0.2, h1.1, h1.2, h2.1, h2.2, h3.1, h3.2, h4.1, h4.2, h5.1, h5.2, h6.1, h6.2, h7.1, h7.2, rfl, rfl, a_p_from, a_p_to, a_t_marks, a_u_marks, rfl, rfl⟩ (Nat.le_of_ble_eq_true rfl) (Nat.le_of_ble_eq_true rfl) dX11_of_128
      · skip
        have hsw_17v : z_what.toInt = 3 := hsw_17
        have hsw_17e : z_what = 3 := Int32.toInt_inj.mp (by rw [hsw_17]; decide +kernel)
        refine lv_tableIn (pc := 26) (off := 103) (tgt := 129) E.1 E.2.1 dX11_of_26 (by rw [hsw_17e]; decide +kernel) (by rw [hsw_17e]; decide +kernel) (by rw [hsw_17e]; decide +kernel) (by decide) ?_
        refine lv_aload_n (pc := 129) E.1 E.2.1 dX11_of_129 rfl (lv_at hl16 0 rfl) ?_
        refine x_get (pc := 130) (T := TX4) (N := 12) (ci := 4) (v := .ref (mr 15)) E hw7 inX4 7 1 q_196 rfl rfl (by decide) rfl rfl dX11_of_130 ?_
        refine lv_iload_n (pc := 133) E.1 E.2.1 dX11_of_133 rfl (lv_at hl16 2 rfl) ?_
        refine x_iald (pc := 134) (f := (mf 15)) E hw7 9 rfl (inbE (a := z_house.toInt) rfl (by omega)) dX11_of_134 ?_
        refine lv_topi (fun v_21 ev_21 => ?_)
        exact em_i (w1 := (fun (u : (Nat → Int32) × (Nat → Nat → Int32) × (Nat → Nat → Int64)) => (WZ_MV cI cJ mv mr u.1 u.2.1 u.2.2))) E hr hlk (mi, mf, mg) hw7 ⟨h0.1, h0.2, h1.1, h1.2, h2.1, h2.2, h3.1, h3.2, h4.1, h4.2, h5.1, h5.2, h6.1, h6.2, h7.1, h7.2, rfl, rfl, a_p_from, a_p_to, a_t_marks, a_u_marks, rfl, rfl⟩ (Nat.le_of_ble_eq_true rfl) (Nat.le_of_ble_eq_true rfl) dX11_of_135
      · skip
        have hsw_17v : z_what.toInt = 4 := hsw_17
        have hsw_17e : z_what = 4 := Int32.toInt_inj.mp (by rw [hsw_17]; decide +kernel)
        refine lv_tableIn (pc := 26) (off := 110) (tgt := 136) E.1 E.2.1 dX11_of_26 (by rw [hsw_17e]; decide +kernel) (by rw [hsw_17e]; decide +kernel) (by rw [hsw_17e]; decide +kernel) (by decide) ?_
        refine lv_aload_n (pc := 136) E.1 E.2.1 dX11_of_136 rfl (lv_at hl16 0 rfl) ?_
        refine x_get (pc := 137) (T := TX4) (N := 12) (ci := 4) (v := .ref (mr 16)) E hw7 inX4 7 2 q_199 rfl rfl (by decide) rfl rfl dX11_of_137 ?_
        refine lv_iload_n (pc := 140) E.1 E.2.1 dX11_of_140 rfl (lv_at hl16 2 rfl) ?_
        refine x_iald (pc := 141) (f := (mf 16)) E hw7 10 rfl (inbE (a := z_house.toInt) rfl (by omega)) dX11_of_141 ?_
        refine lv_topi (fun v_22 ev_22 => ?_)
        exact em_i (w1 := (fun (u : (Nat → Int32) × (Nat → Nat → Int32) × (Nat → Nat → Int64)) => (WZ_MV cI cJ mv mr u.1 u.2.1 u.2.2))) E hr hlk (mi, mf, mg) hw7 ⟨h0.1, h0.2, h1.1, h1.2, h2.1, h2.2, h3.1, h3.2, h4.1, h4.2, h5.1, h5.2, h6.1, h6.2, h7.1, h7.2, rfl, rfl, a_p_from, a_p_to, a_t_marks, a_u_marks, rfl, rfl⟩ (Nat.le_of_ble_eq_true rfl) (Nat.le_of_ble_eq_true rfl) dX11_of_142
      · skip
        have hsw_17v : z_what.toInt = 5 := hsw_17
        have hsw_17e : z_what = 5 := Int32.toInt_inj.mp (by rw [hsw_17]; decide +kernel)
        refine lv_tableIn (pc := 26) (off := 117) (tgt := 143) E.1 E.2.1 dX11_of_26 (by rw [hsw_17e]; decide +kernel) (by rw [hsw_17e]; decide +kernel) (by rw [hsw_17e]; decide +kernel) (by decide) ?_
        refine lv_aload_n (pc := 143) E.1 E.2.1 dX11_of_143 rfl (lv_at hl16 0 rfl) ?_
        refine x_get (pc := 144) (T := TX4) (N := 12) (ci := 4) (v := .ref (mr 17)) E hw7 inX4 7 3 q_202 rfl rfl (by decide) rfl rfl dX11_of_144 ?_
        refine lv_iload_n (pc := 147) E.1 E.2.1 dX11_of_147 rfl (lv_at hl16 2 rfl) ?_
        refine x_iald (pc := 148) (f := (mf 17)) E hw7 11 rfl (inbE (a := z_house.toInt) rfl (by omega)) dX11_of_148 ?_
        refine lv_topi (fun v_23 ev_23 => ?_)
        exact em_i (w1 := (fun (u : (Nat → Int32) × (Nat → Nat → Int32) × (Nat → Nat → Int64)) => (WZ_MV cI cJ mv mr u.1 u.2.1 u.2.2))) E hr hlk (mi, mf, mg) hw7 ⟨h0.1, h0.2, h1.1, h1.2, h2.1, h2.2, h3.1, h3.2, h4.1, h4.2, h5.1, h5.2, h6.1, h6.2, h7.1, h7.2, rfl, rfl, a_p_from, a_p_to, a_t_marks, a_u_marks, rfl, rfl⟩ (Nat.le_of_ble_eq_true rfl) (Nat.le_of_ble_eq_true rfl) dX11_of_149
      · skip
        have hsw_17v : z_what.toInt = 6 := hsw_17
        have hsw_17e : z_what = 6 := Int32.toInt_inj.mp (by rw [hsw_17]; decide +kernel)
        refine lv_tableIn (pc := 26) (off := 124) (tgt := 150) E.1 E.2.1 dX11_of_26 (by rw [hsw_17e]; decide +kernel) (by rw [hsw_17e]; decide +kernel) (by rw [hsw_17e]; decide +kernel) (by decide) ?_
        refine lv_aload_n (pc := 150) E.1 E.2.1 dX11_of_150 rfl (lv_at hl16 1 rfl) ?_
        refine x_get (pc := 151) (T := TX11) (N := 13) (ci := 11) (v := .ref (mr 3)) E hw7 inX11 0 0 q_606 rfl rfl (by decide) rfl rfl dX11_of_151 ?_
        refine x_get (pc := 154) (T := TX10) (N := 17) (ci := 10) (v := .ref (mr 26)) E hw7 inX10 1 1 q_463 rfl rfl (by decide) rfl rfl dX11_of_154 ?_
        refine x_get (pc := 157) (T := TX1) (N := 9) (ci := 1) (v := .ref (mr 29)) E hw7 inX1 13 2 q_273 rfl rfl (by decide) rfl rfl dX11_of_157 ?_
        refine lv_iload_n (pc := 160) E.1 E.2.1 dX11_of_160 rfl (lv_at hl16 2 rfl) ?_
        refine x_iald (pc := 161) (f := (mf 29)) E hw7 16 rfl (inbE (a := z_house.toInt) rfl (by omega)) dX11_of_161 ?_
        refine lv_topi (fun v_24 ev_24 => ?_)
        exact em_i (w1 := (fun (u : (Nat → Int32) × (Nat → Nat → Int32) × (Nat → Nat → Int64)) => (WZ_MV cI cJ mv mr u.1 u.2.1 u.2.2))) E hr hlk (mi, mf, mg) hw7 ⟨h0.1, h0.2, h1.1, h1.2, h2.1, h2.2, h3.1, h3.2, h4.1, h4.2, h5.1, h5.2, h6.1, h6.2, h7.1, h7.2, rfl, rfl, a_p_from, a_p_to, a_t_marks, a_u_marks, rfl, rfl⟩ (Nat.le_of_ble_eq_true rfl) (Nat.le_of_ble_eq_true rfl) dX11_of_162
      · skip
        have hsw_17v : z_what.toInt = 7 := hsw_17
        have hsw_17e : z_what = 7 := Int32.toInt_inj.mp (by rw [hsw_17]; decide +kernel)
        refine lv_tableIn (pc := 26) (off := 137) (tgt := 163) E.1 E.2.1 dX11_of_26 (by rw [hsw_17e]; decide +kernel) (by rw [hsw_17e]; decide +kernel) (by rw [hsw_17e]; decide +kernel) (by decide) ?_
        refine lv_aload_n (pc := 163) E.1 E.2.1 dX11_of_163 rfl (lv_at hl16 1 rfl) ?_
        refine x_get (pc := 164) (T := TX11) (N := 13) (ci := 11) (v := .ref (mr 3)) E hw7 inX11 0 0 q_606 rfl rfl (by decide) rfl rfl dX11_of_164 ?_
        refine x_get (pc := 167) (T := TX10) (N := 17) (ci := 10) (v := .ref (mr 26)) E hw7 inX10 1 1 q_463 rfl rfl (by decide) rfl rfl dX11_of_167 ?_
        refine x_get (pc := 170) (T := TX1) (N := 9) (ci := 1) (v := .ref (mr 30)) E hw7 inX1 13 3 q_276 rfl rfl (by decide) rfl rfl dX11_of_170 ?_
        refine lv_iload_n (pc := 173) E.1 E.2.1 dX11_of_173 rfl (lv_at hl16 2 rfl) ?_
        refine x_iald (pc := 174) (f := (mf 30)) E hw7 17 rfl (inbE (a := z_house.toInt) rfl (by omega)) dX11_of_174 ?_
        refine lv_topi (fun v_25 ev_25 => ?_)
        exact em_i (w1 := (fun (u : (Nat → Int32) × (Nat → Nat → Int32) × (Nat → Nat → Int64)) => (WZ_MV cI cJ mv mr u.1 u.2.1 u.2.2))) E hr hlk (mi, mf, mg) hw7 ⟨h0.1, h0.2, h1.1, h1.2, h2.1, h2.2, h3.1, h3.2, h4.1, h4.2, h5.1, h5.2, h6.1, h6.2, h7.1, h7.2, rfl, rfl, a_p_from, a_p_to, a_t_marks, a_u_marks, rfl, rfl⟩ (Nat.le_of_ble_eq_true rfl) (Nat.le_of_ble_eq_true rfl) dX11_of_175
      · skip
        have hsw_17v : z_what.toInt = 8 := hsw_17
        have hsw_17e : z_what = 8 := Int32.toInt_inj.mp (by rw [hsw_17]; decide +kernel)
        refine lv_tableIn (pc := 26) (off := 150) (tgt := 176) E.1 E.2.1 dX11_of_26 (by rw [hsw_17e]; decide +kernel) (by rw [hsw_17e]; decide +kernel) (by rw [hsw_17e]; decide +kernel) (by decide) ?_
        refine lv_aload_n (pc := 176) E.1 E.2.1 dX11_of_176 rfl (lv_at hl16 1 rfl) ?_
        refine x_get (pc := 177) (T := TX11) (N := 13) (ci := 11) (v := .ref (mr 3)) E hw7 inX11 0 0 q_606 rfl rfl (by decide) rfl rfl dX11_of_177 ?_
        refine lv_aload_n (pc := 180) E.1 E.2.1 dX11_of_180 rfl (lv_at hl16 0 rfl) ?_
        refine lv_iload_n (pc := 181) E.1 E.2.1 dX11_of_181 rfl (lv_at hl16 2 rfl) ?_
        refine ck_i (pc := 182) (ws' := (fun (u : (Nat → Int32) × (Nat → Int32) × (Nat → Int32) × (Nat → Int32)) => (WZ_MV cI cJ mv mr mi (va_up (va_up (va_up (va_up mf 9 u.1) 41 u.2.1) 42 u.2.2.1) 55 u.2.2.2) mg))) [false, true, true, true, true, true, true, true, true, true, true, true, true, true, true, true, true, true, true, true, true, true, true, true, true, true, true, true, true, true, true, true, true, true, true, true, true, true, true, true, true, true, true, true, true, true, true, true, true, true, true] hw7 rfl (fun hC_ => (rn_V (As := [.ref (mr 13), .int z_house]) (rest := []) E hw7 (t_turnsOf l D cI cJ _ (shf 3 mr) (shf 3 mi) (shf 3 mf) (shf 3 mg) z_house (vl [mv 10]) h3 h4 h5 (by show 0 ≤ z_house.toInt ∧ z_house.toInt ≤ 9; omega) a_p_from a_p_to a_t_marks) (gdV q_1105 q_1029 q_1030 q_152 q_1031) hdV_X10_turnsOf ⟨rfl, rfl⟩ ⟨(Nat.le_of_ble_eq_true rfl), (Nat.le_of_ble_eq_true rfl)⟩ ⟨(Nat.le_of_ble_eq_true rfl), (Nat.le_of_ble_eq_true rfl)⟩ xT_b xT_at 1 10 rfl rfl rfl _ hC_ (nd_T _ 0) rfl hl16.1 rfl (Nat.le_of_ble_eq_true rfl) dX11_of_182)) rfl (fun _ => rfl) (fun _ => rfl) (fun r_27 u_26 H1 locs hp hw28 => ?_)
        obtain ⟨greadings_29, gpmeasured_30, gpmeasuredIn_31, gtstack_32⟩ := u_26
        generalize H1 = H at hw28 ⊢
        have hw33 : WD D A s.heap (WZ_MV cI cJ mv mr mi (va_up (va_up (va_up (va_up mf 9 greadings_29) 41 gpmeasured_30) 42 gpmeasuredIn_31) 55 gtstack_32) mg) H locs := hw28
        exact em_i (w1 := (fun (u : (Nat → Int32) × (Nat → Nat → Int32) × (Nat → Nat → Int64)) => (WZ_MV cI cJ mv mr u.1 u.2.1 u.2.2))) E hr hlk (mi, (va_up (va_up (va_up (va_up mf 9 greadings_29) 41 gpmeasured_30) 42 gpmeasuredIn_31) 55 gtstack_32), mg) hw33 ⟨h0.1, h0.2, h1.1, h1.2, h2.1, h2.2, h3.1, h3.2, h4.1, h4.2, h5.1, h5.2, h6.1, h6.2, h7.1, h7.2, rfl, rfl, a_p_from, a_p_to, a_t_marks, a_u_marks, rfl, rfl⟩ (Nat.le_of_ble_eq_true rfl) (Nat.le_of_ble_eq_true rfl) dX11_of_185
      · skip
        have hsw_17v : z_what.toInt = 9 := hsw_17
        have hsw_17e : z_what = 9 := Int32.toInt_inj.mp (by rw [hsw_17]; decide +kernel)
        refine lv_tableIn (pc := 26) (off := 160) (tgt := 186) E.1 E.2.1 dX11_of_26 (by rw [hsw_17e]; decide +kernel) (by rw [hsw_17e]; decide +kernel) (by rw [hsw_17e]; decide +kernel) (by decide) ?_
        refine lv_aload_n (pc := 186) E.1 E.2.1 dX11_of_186 rfl (lv_at hl16 1 rfl) ?_
        refine x_get (pc := 187) (T := TX11) (N := 13) (ci := 11) (v := .ref (mr 3)) E hw7 inX11 0 0 q_606 rfl rfl (by decide) rfl rfl dX11_of_187 ?_
        refine lv_aload_n (pc := 190) E.1 E.2.1 dX11_of_190 rfl (lv_at hl16 0 rfl) ?_
        refine lv_iload_n (pc := 191) E.1 E.2.1 dX11_of_191 rfl (lv_at hl16 2 rfl) ?_
        refine ck_i (pc := 192) (ws' := (fun (u : (Nat → Int32) × (Nat → Int32) × (Nat → Int32) × (Nat → Int32)) => (WZ_MV cI cJ mv mr mi (va_up (va_up (va_up (va_up mf 9 u.1) 41 u.2.1) 42 u.2.2.1) 65 u.2.2.2) mg))) [false, true, true, true, true, true, true, true, true, true, true, true, true, true, true, true, true, true, true, true, true, true, true, true, true, true, true, true, true, true, true, true, true, true, true, true, true, true, true, true, true, true, true, true, true, true, true, true, true, true, true] hw7 rfl (fun hC_ => (rn_V (As := [.ref (mr 13), .int z_house]) (rest := []) E hw7 (t_burningOf l D cI cJ _ (shf 3 mr) (shf 3 mi) (shf 3 mf) (shf 3 mg) z_house (vl [mv 10]) h3 h4 h5 (by show 0 ≤ z_house.toInt ∧ z_house.toInt ≤ 9; omega) a_p_from a_p_to a_u_marks) (gdV q_1106 q_1064 q_1065 q_152 q_1066) hdV_X10_burningOf ⟨rfl, rfl⟩ ⟨(Nat.le_of_ble_eq_true rfl), (Nat.le_of_ble_eq_true rfl)⟩ ⟨(Nat.le_of_ble_eq_true rfl), (Nat.le_of_ble_eq_true rfl)⟩ xT_b xT_at 1 10 rfl rfl rfl _ hC_ (nd_T _ 0) rfl hl16.1 rfl (Nat.le_of_ble_eq_true rfl) dX11_of_192)) rfl (fun _ => rfl) (fun _ => rfl) (fun r_35 u_34 H1 locs hp hw36 => ?_)
        obtain ⟨greadings_37, gpmeasured_38, gpmeasuredIn_39, gustack_40⟩ := u_34
        generalize H1 = H at hw36 ⊢
        have hw41 : WD D A s.heap (WZ_MV cI cJ mv mr mi (va_up (va_up (va_up (va_up mf 9 greadings_37) 41 gpmeasured_38) 42 gpmeasuredIn_39) 65 gustack_40) mg) H locs := hw36
        obtain ⟨hp_42, hp_43⟩ := hp
        have hp_42 : 0 ≤ r_35.toInt := hp_42
        have hp_43 : r_35.toInt ≤ 99 := hp_43
        exact em_i (w1 := (fun (u : (Nat → Int32) × (Nat → Nat → Int32) × (Nat → Nat → Int64)) => (WZ_MV cI cJ mv mr u.1 u.2.1 u.2.2))) E hr hlk (mi, (va_up (va_up (va_up (va_up mf 9 greadings_37) 41 gpmeasured_38) 42 gpmeasuredIn_39) 65 gustack_40), mg) hw41 ⟨h0.1, h0.2, h1.1, h1.2, h2.1, h2.2, h3.1, h3.2, h4.1, h4.2, h5.1, h5.2, h6.1, h6.2, h7.1, h7.2, rfl, rfl, a_p_from, a_p_to, a_t_marks, a_u_marks, rfl, rfl⟩ (Nat.le_of_ble_eq_true rfl) (Nat.le_of_ble_eq_true rfl) dX11_of_195
      · skip
        have hsw_17v : z_what.toInt = 10 := hsw_17
        have hsw_17e : z_what = 10 := Int32.toInt_inj.mp (by rw [hsw_17]; decide +kernel)
        refine lv_tableIn (pc := 26) (off := 170) (tgt := 196) E.1 E.2.1 dX11_of_26 (by rw [hsw_17e]; decide +kernel) (by rw [hsw_17e]; decide +kernel) (by rw [hsw_17e]; decide +kernel) (by decide) ?_
        refine lv_aload_n (pc := 196) E.1 E.2.1 dX11_of_196 rfl (lv_at hl16 1 rfl) ?_
        refine x_get (pc := 197) (T := TX11) (N := 13) (ci := 11) (v := .ref (mr 3)) E hw7 inX11 0 0 q_606 rfl rfl (by decide) rfl rfl dX11_of_197 ?_
        refine x_get (pc := 200) (T := TX10) (N := 17) (ci := 10) (v := .ref (mr 26)) E hw7 inX10 1 1 q_463 rfl rfl (by decide) rfl rfl dX11_of_200 ?_
        refine x_get (pc := 203) (T := TX1) (N := 9) (ci := 1) (v := .ref (mr 31)) E hw7 inX1 13 4 q_278 rfl rfl (by decide) rfl rfl dX11_of_203 ?_
        refine lv_iload_n (pc := 206) E.1 E.2.1 dX11_of_206 rfl (lv_at hl16 2 rfl) ?_
        refine x_iald (pc := 207) (f := (mf 31)) E hw7 18 rfl (inbE (a := z_house.toInt) rfl (by omega)) dX11_of_207 ?_
        refine lv_topi (fun v_44 ev_44 => ?_)
        exact em_i (w1 := (fun (u : (Nat → Int32) × (Nat → Nat → Int32) × (Nat → Nat → Int64)) => (WZ_MV cI cJ mv mr u.1 u.2.1 u.2.2))) E hr hlk (mi, mf, mg) hw7 ⟨h0.1, h0.2, h1.1, h1.2, h2.1, h2.2, h3.1, h3.2, h4.1, h4.2, h5.1, h5.2, h6.1, h6.2, h7.1, h7.2, rfl, rfl, a_p_from, a_p_to, a_t_marks, a_u_marks, rfl, rfl⟩ (Nat.le_of_ble_eq_true rfl) (Nat.le_of_ble_eq_true rfl) dX11_of_208
      · skip
        have hsw_17v : z_what.toInt = 11 := hsw_17
        have hsw_17e : z_what = 11 := Int32.toInt_inj.mp (by rw [hsw_17]; decide +kernel)
        refine lv_tableIn (pc := 26) (off := 183) (tgt := 209) E.1 E.2.1 dX11_of_26 (by rw [hsw_17e]; decide +kernel) (by rw [hsw_17e]; decide +kernel) (by rw [hsw_17e]; decide +kernel) (by decide) ?_
        refine lv_aload_n (pc := 209) E.1 E.2.1 dX11_of_209 rfl (lv_at hl16 1 rfl) ?_
        refine x_get (pc := 210) (T := TX11) (N := 13) (ci := 11) (v := .ref (mr 3)) E hw7 inX11 0 0 q_606 rfl rfl (by decide) rfl rfl dX11_of_210 ?_
        refine lv_iload_n (pc := 213) E.1 E.2.1 dX11_of_213 rfl (lv_at hl16 2 rfl) ?_
        refine ck_i (pc := 214) (ws' := (fun (u : (Nat → Int32) × (Nat → Int32)) => (WZ_MV cI cJ mv mr mi (va_up (va_up mf 41 u.1) 42 u.2) mg))) [false, true, true, true, true, true, true, true, true, true, true, true, true, true, true, true, true, true, true, true, true, true, true, true, true, true, true, true, true, true, true, true, true, true, true, true, true, true, true, true, true, true, true, true, true, true, true, true, true, true, true] hw7 rfl (fun hC_ => (rn_V (As := [.int z_house]) (rest := []) E hw7 (t_reachedSet l D cI cJ _ (shf 3 mr) (shf 3 mi) (shf 3 mf) (shf 3 mg) z_house (vl [mv 10]) h3 h4 h5 a_p_from a_p_to) (gdV q_1107 q_1108 q_1109 q_152 q_1110) hdV_X10_reachedSet ⟨rfl, rfl⟩ ⟨(Nat.le_of_ble_eq_true rfl), (Nat.le_of_ble_eq_true rfl)⟩ ⟨(Nat.le_of_ble_eq_true rfl), (Nat.le_of_ble_eq_true rfl)⟩ xT_b xT_at 1 10 rfl rfl rfl _ hC_ (nd_T _ 0) rfl hl16.1 rfl (Nat.le_of_ble_eq_true rfl) dX11_of_214)) rfl (fun _ => rfl) (fun _ => rfl) (fun r_46 u_45 H1 locs hp hw47 => ?_)
        obtain ⟨gpmeasured_48, gpmeasuredIn_49⟩ := u_45
        generalize H1 = H at hw47 ⊢
        have hw50 : WD D A s.heap (WZ_MV cI cJ mv mr mi (va_up (va_up mf 41 gpmeasured_48) 42 gpmeasuredIn_49) mg) H locs := hw47
        exact em_i (w1 := (fun (u : (Nat → Int32) × (Nat → Nat → Int32) × (Nat → Nat → Int64)) => (WZ_MV cI cJ mv mr u.1 u.2.1 u.2.2))) E hr hlk (mi, (va_up (va_up mf 41 gpmeasured_48) 42 gpmeasuredIn_49), mg) hw50 ⟨h0.1, h0.2, h1.1, h1.2, h2.1, h2.2, h3.1, h3.2, h4.1, h4.2, h5.1, h5.2, h6.1, h6.2, h7.1, h7.2, rfl, rfl, a_p_from, a_p_to, a_t_marks, a_u_marks, rfl, rfl⟩ (Nat.le_of_ble_eq_true rfl) (Nat.le_of_ble_eq_true rfl) dX11_of_217
      · skip
        have hsw_17v : z_what.toInt = 12 := hsw_17
        have hsw_17e : z_what = 12 := Int32.toInt_inj.mp (by rw [hsw_17]; decide +kernel)
        refine lv_tableIn (pc := 26) (off := 192) (tgt := 218) E.1 E.2.1 dX11_of_26 (by rw [hsw_17e]; decide +kernel) (by rw [hsw_17e]; decide +kernel) (by rw [hsw_17e]; decide +kernel) (by decide) ?_
        refine lv_aload_n (pc := 218) E.1 E.2.1 dX11_of_218 rfl (lv_at hl16 1 rfl) ?_
        refine x_get (pc := 219) (T := TX11) (N := 13) (ci := 11) (v := .ref (mr 3)) E hw7 inX11 0 0 q_606 rfl rfl (by decide) rfl rfl dX11_of_219 ?_
        refine x_get (pc := 222) (T := TX10) (N := 17) (ci := 10) (v := .ref (mr 26)) E hw7 inX10 1 1 q_463 rfl rfl (by decide) rfl rfl dX11_of_222 ?_
        refine lv_iload_n (pc := 225) E.1 E.2.1 dX11_of_225 rfl (lv_at hl16 2 rfl) ?_
        refine lv_aload_n (pc := 226) E.1 E.2.1 dX11_of_226 rfl (lv_at hl16 0 rfl) ?_
        refine x_get (pc := 227) (T := TX4) (N := 12) (ci := 4) (v := .ref (mr 16)) E hw7 inX4 7 2 q_199 rfl rfl (by decide) rfl rfl dX11_of_227 ?_
        refine lv_aload_n (pc := 230) E.1 E.2.1 dX11_of_230 rfl (lv_at hl16 1 rfl) ?_
        refine x_get (pc := 231) (T := TX11) (N := 13) (ci := 11) (v := .ref (mr 3)) E hw7 inX11 0 0 q_606 rfl rfl (by decide) rfl rfl dX11_of_231 ?_
        refine x_get (pc := 234) (T := TX10) (N := 17) (ci := 10) (v := .int (mi 6)) E hw7 inX10 1 10 q_484 rfl rfl (by decide) rfl rfl dX11_of_234 ?_
        refine cq_i (pc := 237) (ws' := (fun (u : Unit) => (WZ_MV cI cJ mv mr mi mf mg))) hw7 [13, 14, 15, 16, 17, 18, 19, 20, 10] [0, 1, 2, 3, 4, 5, 6, 7, 8, 9, 11, 12, 21, 22, 23, 24, 25, 26, 27, 28, 29, 30, 31, 32, 33, 34, 35, 36, 37, 38, 39, 40, 41, 42, 43, 44, 45, 46, 47, 48, 49, 50] [0, 1, 2, 3, 4, 5, 6, 7, 8, 9, 50, 10, 11, 42, 43, 44, 45, 46, 47, 48, 49, 12, 13, 14, 15, 16, 17, 18, 19, 20, 21, 22, 23, 24, 25, 26, 27, 28, 29, 30, 31, 32, 33, 34, 35, 36, 37, 38, 39, 40, 41] rfl rfl (by decide) (by decide) (fun _ => rfl) (by decide) (rn_V (As := [.int z_house, .ref (mr 16), .int (mi 6)]) (rest := []) E hw7 (t_enviedBy l D cI cJ _ (shg 9 26 7 mr) (shg 9 26 7 mi) (shg 9 26 7 mf) (shg 9 26 7 mg) z_house (mi 6) (vl [mv 10]) h3 (by show 0 ≤ z_house.toInt ∧ z_house.toInt ≤ 9; omega)) (gdV q_1111 q_1112 q_1113 q_154 q_1114) hdV_X1_enviedBy ⟨rfl, rfl⟩ ⟨(Nat.le_of_ble_eq_true rfl), (Nat.le_of_ble_eq_true rfl)⟩ ⟨(Nat.le_of_ble_eq_true rfl), (Nat.le_of_ble_eq_true rfl)⟩ xT_b xT_at 13 1 rfl rfl rfl [13, 14, 15, 16, 17, 18, 19, 20, 10] rfl (by decide) rfl hl16.1 rfl (Nat.le_of_ble_eq_true rfl) dX11_of_237) (fun r_52 u_51 H1 locs hp hw53 => ?_)
        generalize H1 = H at hw53 ⊢
        have hw54 : WD D A s.heap (WZ_MV cI cJ mv mr mi mf mg) H locs := hw53
        exact em_i (w1 := (fun (u : (Nat → Int32) × (Nat → Nat → Int32) × (Nat → Nat → Int64)) => (WZ_MV cI cJ mv mr u.1 u.2.1 u.2.2))) E hr hlk (mi, mf, mg) hw54 ⟨h0.1, h0.2, h1.1, h1.2, h2.1, h2.2, h3.1, h3.2, h4.1, h4.2, h5.1, h5.2, h6.1, h6.2, h7.1, h7.2, rfl, rfl, a_p_from, a_p_to, a_t_marks, a_u_marks, rfl, rfl⟩ (Nat.le_of_ble_eq_true rfl) (Nat.le_of_ble_eq_true rfl) dX11_of_240
      · skip
        have hsw_17v : z_what.toInt = 13 := hsw_17
        have hsw_17e : z_what = 13 := Int32.toInt_inj.mp (by rw [hsw_17]; decide +kernel)
        refine lv_tableIn (pc := 26) (off := 215) (tgt := 241) E.1 E.2.1 dX11_of_26 (by rw [hsw_17e]; decide +kernel) (by rw [hsw_17e]; decide +kernel) (by rw [hsw_17e]; decide +kernel) (by decide) ?_
        refine lv_aload_n (pc := 241) E.1 E.2.1 dX11_of_241 rfl (lv_at hl16 1 rfl) ?_
        refine x_get (pc := 242) (T := TX11) (N := 13) (ci := 11) (v := .ref (mr 3)) E hw7 inX11 0 0 q_606 rfl rfl (by decide) rfl rfl dX11_of_242 ?_
        refine x_get (pc := 245) (T := TX10) (N := 17) (ci := 10) (v := .ref (mr 26)) E hw7 inX10 1 1 q_463 rfl rfl (by decide) rfl rfl dX11_of_245 ?_
        refine lv_iload_n (pc := 248) E.1 E.2.1 dX11_of_248 rfl (lv_at hl16 2 rfl) ?_
        refine ck_i (pc := 249) (ws' := (fun (u : Unit) => (WZ_MV cI cJ mv mr mi mf mg))) [false, false, false, false, false, false, false, false, false, false, false, false, false, true, true, true, true, true, true, true, true, false, false, false, false, false, false, false, false, false, false, false, false, false, false, false, false, false, false, false, false, false, false, false, false, false, false, false, false, false, false] hw7 rfl (fun hC_ => (rn_V (As := [.int z_house]) (rest := []) E hw7 (t_seenBy l D cI cJ _ (shf 26 mr) (shf 26 mi) (shf 26 mf) (shf 26 mg) z_house (vl [mv 10]) h3 (by show 0 ≤ z_house.toInt ∧ z_house.toInt ≤ 9; omega)) (gdV q_1115 q_1116 q_1117 q_154 q_1118) hdV_X1_seenBy ⟨rfl, rfl⟩ ⟨(Nat.le_of_ble_eq_true rfl), (Nat.le_of_ble_eq_true rfl)⟩ ⟨(Nat.le_of_ble_eq_true rfl), (Nat.le_of_ble_eq_true rfl)⟩ xT_b xT_at 13 1 rfl rfl rfl _ hC_ (nd_T _ 0) rfl hl16.1 rfl (Nat.le_of_ble_eq_true rfl) dX11_of_249)) rfl (fun _ => rfl) (fun _ => rfl) (fun r_56 u_55 H1 locs hp hw57 => ?_)
        generalize H1 = H at hw57 ⊢
        have hw58 : WD D A s.heap (WZ_MV cI cJ mv mr mi mf mg) H locs := hw57
        exact em_i (w1 := (fun (u : (Nat → Int32) × (Nat → Nat → Int32) × (Nat → Nat → Int64)) => (WZ_MV cI cJ mv mr u.1 u.2.1 u.2.2))) E hr hlk (mi, mf, mg) hw58 ⟨h0.1, h0.2, h1.1, h1.2, h2.1, h2.2, h3.1, h3.2, h4.1, h4.2, h5.1, h5.2, h6.1, h6.2, h7.1, h7.2, rfl, rfl, a_p_from, a_p_to, a_t_marks, a_u_marks, rfl, rfl⟩ (Nat.le_of_ble_eq_true rfl) (Nat.le_of_ble_eq_true rfl) dX11_of_252
  · skip
    have ha_12 : z_house.toInt + 1 ≤ 0 := ha_12
    refine lv_if_ne (pc := 11) (tgt := 17) E.1 E.2.1 dX11_of_11 (by decide) (fun c_59 => absurd (meqE (a := 0) (b := 0) (by decide +kernel) (by decide +kernel) (by omega)) c_59) (fun _ => ?_)
    refine lv_ldc (pc := 14) (v := (-1000000)) E.1 E.2.1 E.2.2.2.1 (E.2.2.2.2.1 _ q_1104) dX11_of_14 ?_
    exact em_i (w1 := (fun (u : (Nat → Int32) × (Nat → Nat → Int32) × (Nat → Nat → Int64)) => (WZ_MV cI cJ mv mr u.1 u.2.1 u.2.2))) E hr hlk (mi, mf, mg) hw7 ⟨h0.1, h0.2, h1.1, h1.2, h2.1, h2.2, h3.1, h3.2, h4.1, h4.2, h5.1, h5.2, h6.1, h6.2, h7.1, h7.2, rfl, rfl, a_p_from, a_p_to, a_t_marks, a_u_marks, rfl, rfl⟩ (Nat.le_of_ble_eq_true rfl) (Nat.le_of_ble_eq_true rfl) dX11_of_16
  · skip
    have ha_13 : (mi 32).toInt ≤ z_house.toInt := ha_13
    refine lv_if_ne (pc := 11) (tgt := 17) E.1 E.2.1 dX11_of_11 (by decide) (fun c_60 => absurd (meqE (a := 0) (b := 0) (by decide +kernel) (by decide +kernel) (by omega)) c_60) (fun _ => ?_)
    refine lv_ldc (pc := 14) (v := (-1000000)) E.1 E.2.1 E.2.2.2.1 (E.2.2.2.2.1 _ q_1104) dX11_of_14 ?_
    exact em_i (w1 := (fun (u : (Nat → Int32) × (Nat → Nat → Int32) × (Nat → Nat → Int64)) => (WZ_MV cI cJ mv mr u.1 u.2.1 u.2.2))) E hr hlk (mi, mf, mg) hw7 ⟨h0.1, h0.2, h1.1, h1.2, h2.1, h2.2, h3.1, h3.2, h4.1, h4.2, h5.1, h5.2, h6.1, h6.2, h7.1, h7.2, rfl, rfl, a_p_from, a_p_to, a_t_marks, a_u_marks, rfl, rfl⟩ (Nat.le_of_ble_eq_true rfl) (Nat.le_of_ble_eq_true rfl) dX11_of_16
  · skip
    have ha_14 : 10 ≤ z_house.toInt := ha_14
    refine lv_if_ne (pc := 11) (tgt := 17) E.1 E.2.1 dX11_of_11 (by decide) (fun c_61 => absurd (meqE (a := 0) (b := 0) (by decide +kernel) (by decide +kernel) (by omega)) c_61) (fun _ => ?_)
    refine lv_ldc (pc := 14) (v := (-1000000)) E.1 E.2.1 E.2.2.2.1 (E.2.2.2.2.1 _ q_1104) dX11_of_14 ?_
    exact em_i (w1 := (fun (u : (Nat → Int32) × (Nat → Nat → Int32) × (Nat → Nat → Int64)) => (WZ_MV cI cJ mv mr u.1 u.2.1 u.2.2))) E hr hlk (mi, mf, mg) hw7 ⟨h0.1, h0.2, h1.1, h1.2, h2.1, h2.2, h3.1, h3.2, h4.1, h4.2, h5.1, h5.2, h6.1, h6.2, h7.1, h7.2, rfl, rfl, a_p_from, a_p_to, a_t_marks, a_u_marks, rfl, rfl⟩ (Nat.le_of_ble_eq_true rfl) (Nat.le_of_ble_eq_true rfl) dX11_of_16
