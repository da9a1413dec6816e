set_option maxHeartbeats 4000000 in
set_option maxRecDepth 100000 in
theorem t_look (l : Launch) (D : va_G) (cI cJ : ClassId) (sz : Nat) (mr : Nat → Nat) (mi : Nat → Int32) (mf : Nat → Nat → Int32) (mg : Nat → Nat → Int64) (z_what : Int32) (mv : Nat → Value) (h0 : 0 ≤ (mi 1).toInt ∧ (mi 1).toInt ≤ 5) (h1 : 0 ≤ (mi 2).toInt ∧ (mi 2).toInt ≤ 6) (h2 : 0 ≤ (mi 14).toInt ∧ (mi 14).toInt ≤ 200) (h3 : 0 ≤ (mi 17).toInt ∧ (mi 17).toInt ≤ 10) (h4 : 0 ≤ (mi 19).toInt ∧ (mi 19).toInt ≤ 40) (h5 : 0 ≤ (mi 21).toInt ∧ (mi 21).toInt ≤ 10) (h6 : 0 ≤ (mi 35).toInt ∧ (mi 35).toInt ≤ 200) (h7 : 0 ≤ (mi 38).toInt ∧ (mi 38).toInt ≤ 8) : Met l yX11_look (Cond.code yX11_look cX11_look 3 (some .int) :: GW) ({ frames := 11, cells := 0, slots := 0, locals := 263 } : Room) (va_Pc [.ref (mr 0), .int z_what] (PW D cI cJ sz (WZ_Mlook cI cJ mv mr mi mf mg) xT)) (va_Qi (fun (r : Int32) (u : (Nat → Int32) × (Nat → Nat → Int32) × (Nat → Nat → Int64)) => (0 ≤ (u.1 1).toInt) ∧ ((u.1 1).toInt ≤ 5) ∧ (0 ≤ (u.1 2).toInt) ∧ ((u.1 2).toInt ≤ 6) ∧ (0 ≤ (u.1 14).toInt) ∧ ((u.1 14).toInt ≤ 200) ∧ (0 ≤ (u.1 17).toInt) ∧ ((u.1 17).toInt ≤ 10) ∧ (0 ≤ (u.1 19).toInt) ∧ ((u.1 19).toInt ≤ 40) ∧ (0 ≤ (u.1 21).toInt) ∧ ((u.1 21).toInt ≤ 10) ∧ (0 ≤ (u.1 35).toInt) ∧ ((u.1 35).toInt ≤ 200) ∧ (0 ≤ (u.1 38).toInt) ∧ ((u.1 38).toInt ≤ 8) ∧ ((u.1 17).toInt = (mi 17).toInt) ∧ ((u.1 38).toInt = (mi 38).toInt)) (fun u => QW D cI cJ (va_A (WZ_Mlook cI cJ mv mr mi mf mg) sz) ((fun (u : (Nat → Int32) × (Nat → Nat → Int32) × (Nat → Nat → Int64)) => (WZ_Mlook cI cJ mv mr u.1 u.2.1 u.2.2)) u)) (va_A (WZ_Mlook cI cJ mv mr mi mf mg) sz)) 0 0 (va_A (WZ_Mlook cI cJ mv mr mi mf mg) sz) := by
  refine mk_met (y := yX11_look) (bytes := cX11_look) (maxL := 3) (avs := [.ref (mr 0), .int z_what]) (WS := (WZ_Mlook cI cJ mv mr mi mf mg)) (Qf := fun A => va_Qi (fun (r : Int32) (u : (Nat → Int32) × (Nat → Nat → Int32) × (Nat → Nat → Int64)) => (0 ≤ (u.1 1).toInt) ∧ ((u.1 1).toInt ≤ 5) ∧ (0 ≤ (u.1 2).toInt) ∧ ((u.1 2).toInt ≤ 6) ∧ (0 ≤ (u.1 14).toInt) ∧ ((u.1 14).toInt ≤ 200) ∧ (0 ≤ (u.1 17).toInt) ∧ ((u.1 17).toInt ≤ 10) ∧ (0 ≤ (u.1 19).toInt) ∧ ((u.1 19).toInt ≤ 40) ∧ (0 ≤ (u.1 21).toInt) ∧ ((u.1 21).toInt ≤ 10) ∧ (0 ≤ (u.1 35).toInt) ∧ ((u.1 35).toInt ≤ 200) ∧ (0 ≤ (u.1 38).toInt) ∧ ((u.1 38).toInt ≤ 8) ∧ ((u.1 17).toInt = (mi 17).toInt) ∧ ((u.1 38).toInt = (mi 38).toInt)) (fun u => QW D cI cJ A ((fun (u : (Nat → Int32) × (Nat → Nat → Int32) × (Nat → Nat → Int64)) => (WZ_Mlook cI cJ mv mr u.1 u.2.1 u.2.2)) u)) A) (by decide) (Nat.le_of_ble_eq_true rfl) ?_
  intro p e s m below meth c A ls E hr hlk hnm hX hw1 hl2
  have hl3 : lv_has ls 3 [(0, .ref (mr 0)), (1, .int z_what)] := hl2
  refine lv_aload_n (pc := 0) E.1 E.2.1 dX11_look_0 rfl (lv_at hl3 0 rfl) ?_
  refine x_get (pc := 1) (T := TX11) (N := 13) (ci := 11) (v := .ref (mr 3)) E hw1 inX11 0 0 q_606 rfl rfl (by decide) rfl rfl dX11_look_1 ?_
  refine x_get (pc := 4) (T := TX10) (N := 17) (ci := 10) (v := .ref (mr 8)) E hw1 inX10 1 0 q_458 rfl rfl (by decide) rfl rfl dX11_look_4 ?_
  refine lv_astore_n (pc := 7) (lv' := [(2, .ref (mr 8)), (0, .ref (mr 0)), (1, .int z_what)]) E.1 E.2.1 dX11_look_7 rfl hl3 (by decide) rfl (fun ls hl4 => ?_)
  refine lv_iload_n (pc := 8) E.1 E.2.1 dX11_look_8 rfl (lv_at hl4 2 rfl) ?_
  rcases swt (x := z_what) 0 24 with hsw_5 | ⟨hsw_5k, hsw_51, hsw_52, hsw_5⟩
  · skip
    refine lv_tableOut (pc := 9) (tgt := 268) E.1 E.2.1 dX11_look_9 hsw_5 (by decide) ?_
    refine lv_sipush (pc := 268) (v := (-1000)) E.1 E.2.1 dX11_look_268 (by decide +kernel) ?_
    exact em_i (w1 := (fun (u : (Nat → Int32) × (Nat → Nat → Int32) × (Nat → Nat → Int64)) => (WZ_Mlook cI cJ mv mr u.1 u.2.1 u.2.2))) E hr hlk (mi, mf, mg) hw1 ⟨h0.1, h0.2, h1.1, h1.2, h2.1, h2.2, h3.1, h3.2, h4.1, h4.2, h5.1, h5.2, h6.1, h6.2, h7.1, h7.2, rfl, rfl⟩ (Nat.le_of_ble_eq_true rfl) (Nat.le_of_ble_eq_true rfl) dX11_look_271
  · skip
    rcases (show hsw_5k = 0 ∨ hsw_5k = 1 ∨ hsw_5k = 2 ∨ hsw_5k = 3 ∨ hsw_5k = 4 ∨ hsw_5k = 5 ∨ hsw_5k = 6 ∨ hsw_5k = 7 ∨ hsw_5k = 8 ∨ hsw_5k = 9 ∨ hsw_5k = 10 ∨ hsw_5k = 11 ∨ hsw_5k = 12 ∨ hsw_5k = 13 ∨ hsw_5k = 14 ∨ hsw_5k = 15 ∨ hsw_5k = 16 ∨ hsw_5k = 17 ∨ hsw_5k = 18 ∨ hsw_5k = 19 ∨ hsw_5k = 20 ∨ hsw_5k = 21 ∨ hsw_5k = 22 ∨ hsw_5k = 23 ∨ hsw_5k = 24 from by omega) with rfl | rfl | rfl | rfl | rfl | rfl | rfl | rfl | rfl | rfl | rfl | rfl | rfl | rfl | rfl | rfl | rfl | rfl | rfl | rfl | rfl | rfl | rfl | rfl | rfl
    · skip
      have hsw_5v : z_what.toInt = 0 := hsw_5
      have hsw_5e : z_what = 0 := Int32.toInt_inj.mp (by rw [hsw_5]; decide +kernel)
      refine lv_tableIn (pc := 9) (off := 115) (tgt := 124) E.1 E.2.1 dX11_look_9 (by rw [hsw_5e]; decide +kernel) (by rw [hsw_5e]; decide +kernel) (by rw [hsw_5e]; decide +kernel) (by decide) ?_
      refine lv_aload_n (pc := 124) E.1 E.2.1 dX11_look_124 rfl (lv_at hl4 1 rfl) ?_
      refine x_get (pc := 125) (T := TX11) (N := 13) (ci := 11) (v := .ref (mr 3)) E hw1 inX11 0 0 q_606 rfl rfl (by decide) rfl rfl dX11_look_125 ?_
      refine x_get (pc := 128) (T := TX10) (N := 17) (ci := 10) (v := .ref (mr 16)) E hw1 inX10 1 1 q_463 rfl rfl (by decide) rfl rfl dX11_look_128 ?_
      refine x_get (pc := 131) (T := TX1) (N := 9) (ci := 1) (v := .int (mi 17)) E hw1 inX1 3 5 q_282 rfl rfl (by decide) rfl rfl dX11_look_131 ?_
      exact em_i (w1 := (fun (u : (Nat → Int32) × (Nat → Nat → Int32) × (Nat → Nat → Int64)) => (WZ_Mlook cI cJ mv mr u.1 u.2.1 u.2.2))) E hr hlk (mi, mf, mg) hw1 ⟨h0.1, h0.2, h1.1, h1.2, h2.1, h2.2, h3.1, h3.2, h4.1, h4.2, h5.1, h5.2, h6.1, h6.2, h7.1, h7.2, rfl, rfl⟩ (Nat.le_of_ble_eq_true rfl) (Nat.le_of_ble_eq_true rfl) dX11_look_134
    · skip
      have hsw_5v : z_what.toInt = 1 := hsw_5
      have hsw_5e : z_what = 1 := Int32.toInt_inj.mp (by rw [hsw_5]; decide +kernel)
      refine lv_tableIn (pc := 9) (off := 126) (tgt := 135) E.1 E.2.1 dX11_look_9 (by rw [hsw_5e]; decide +kernel) (by rw [hsw_5e]; decide +kernel) (by rw [hsw_5e]; decide +kernel) (by decide) ?_
      refine lv_aload_n (pc := 135) E.1 E.2.1 dX11_look_135 rfl (lv_at hl4 0 rfl) ?_
      refine x_get (pc := 136) (T := TX4) (N := 12) (ci := 4) (v := .int (mi 10)) E hw1 inX4 2 6 q_216 rfl rfl (by decide) rfl rfl dX11_look_136 ?_
      exact em_i (w1 := (fun (u : (Nat → Int32) × (Nat → Nat → Int32) × (Nat → Nat → Int64)) => (WZ_Mlook cI cJ mv mr u.1 u.2.1 u.2.2))) E hr hlk (mi, mf, mg) hw1 ⟨h0.1, h0.2, h1.1, h1.2, h2.1, h2.2, h3.1, h3.2, h4.1, h4.2, h5.1, h5.2, h6.1, h6.2, h7.1, h7.2, rfl, rfl⟩ (Nat.le_of_ble_eq_true rfl) (Nat.le_of_ble_eq_true rfl) dX11_look_139
    · skip
      have hsw_5v : z_what.toInt = 2 := hsw_5
      have hsw_5e : z_what = 2 := Int32.toInt_inj.mp (by rw [hsw_5]; decide +kernel)
      refine lv_tableIn (pc := 9) (off := 131) (tgt := 140) E.1 E.2.1 dX11_look_9 (by rw [hsw_5e]; decide +kernel) (by rw [hsw_5e]; decide +kernel) (by rw [hsw_5e]; decide +kernel) (by decide) ?_
      refine lv_aload_n (pc := 140) E.1 E.2.1 dX11_look_140 rfl (lv_at hl4 0 rfl) ?_
      refine x_get (pc := 141) (T := TX4) (N := 12) (ci := 4) (v := .int (mi 11)) E hw1 inX4 2 7 q_221 rfl rfl (by decide) rfl rfl dX11_look_141 ?_
      exact em_i (w1 := (fun (u : (Nat → Int32) × (Nat → Nat → Int32) × (Nat → Nat → Int64)) => (WZ_Mlook cI cJ mv mr u.1 u.2.1 u.2.2))) E hr hlk (mi, mf, mg) hw1 ⟨h0.1, h0.2, h1.1, h1.2, h2.1, h2.2, h3.1, h3.2, h4.1, h4.2, h5.1, h5.2, h6.1, h6.2, h7.1, h7.2, rfl, rfl⟩ (Nat.le_of_ble_eq_true rfl) (Nat.le_of_ble_eq_true rfl) dX11_look_144
    · skip
      have hsw_5v : z_what.toInt = 3 := hsw_5
      have hsw_5e : z_what = 3 := Int32.toInt_inj.mp (by rw [hsw_5]; decide +kernel)
      refine lv_tableIn (pc := 9) (off := 136) (tgt := 145) E.1 E.2.1 dX11_look_9 (by rw [hsw_5e]; decide +kernel) (by rw [hsw_5e]; decide +kernel) (by rw [hsw_5e]; decide +kernel) (by decide) ?_
      refine lv_aload_n (pc := 145) E.1 E.2.1 dX11_look_145 rfl (lv_at hl4 0 rfl) ?_
      refine x_get (pc := 146) (T := TX4) (N := 12) (ci := 4) (v := .int (mi 15)) E hw1 inX4 2 11 q_233 rfl rfl (by decide) rfl rfl dX11_look_146 ?_
      exact em_i (w1 := (fun (u : (Nat → Int32) × (Nat → Nat → Int32) × (Nat → Nat → Int64)) => (WZ_Mlook cI cJ mv mr u.1 u.2.1 u.2.2))) E hr hlk (mi, mf, mg) hw1 ⟨h0.1, h0.2, h1.1, h1.2, h2.1, h2.2, h3.1, h3.2, h4.1, h4.2, h5.1, h5.2, h6.1, h6.2, h7.1, h7.2, rfl, rfl⟩ (Nat.le_of_ble_eq_true rfl) (Nat.le_of_ble_eq_true rfl) dX11_look_149
    · skip
      have hsw_5v : z_what.toInt = 4 := hsw_5
      have hsw_5e : z_what = 4 := Int32.toInt_inj.mp (by rw [hsw_5]; decide +kernel)
      refine lv_tableIn (pc := 9) (off := 141) (tgt := 150) E.1 E.2.1 dX11_look_9 (by rw [hsw_5e]; decide +kernel) (by rw [hsw_5e]; decide +kernel) (by rw [hsw_5e]; decide +kernel) (by decide) ?_
      refine lv_aload_n (pc := 150) E.1 E.2.1 dX11_look_150 rfl (lv_at hl4 0 rfl) ?_
      refine x_get (pc := 151) (T := TX4) (N := 12) (ci := 4) (v := .int (mi 13)) E hw1 inX4 2 9 q_226 rfl rfl (by decide) rfl rfl dX11_look_151 ?_
      exact em_i (w1 := (fun (u : (Nat → Int32) × (Nat → Nat → Int32) × (Nat → Nat → Int64)) => (WZ_Mlook cI cJ mv mr u.1 u.2.1 u.2.2))) E hr hlk (mi, mf, mg) hw1 ⟨h0.1, h0.2, h1.1, h1.2, h2.1, h2.2, h3.1, h3.2, h4.1, h4.2, h5.1, h5.2, h6.1, h6.2, h7.1, h7.2, rfl, rfl⟩ (Nat.le_of_ble_eq_true rfl) (Nat.le_of_ble_eq_true rfl) dX11_look_154
    · skip
      have hsw_5v : z_what.toInt = 5 := hsw_5
      have hsw_5e : z_what = 5 := Int32.toInt_inj.mp (by rw [hsw_5]; decide +kernel)
      refine lv_tableIn (pc := 9) (off := 146) (tgt := 155) E.1 E.2.1 dX11_look_9 (by rw [hsw_5e]; decide +kernel) (by rw [hsw_5e]; decide +kernel) (by rw [hsw_5e]; decide +kernel) (by decide) ?_
      refine lv_aload_n (pc := 155) E.1 E.2.1 dX11_look_155 rfl (lv_at hl4 1 rfl) ?_
      refine x_get (pc := 156) (T := TX11) (N := 13) (ci := 11) (v := .ref (mr 3)) E hw1 inX11 0 0 q_606 rfl rfl (by decide) rfl rfl dX11_look_156 ?_
      refine x_get (pc := 159) (T := TX10) (N := 17) (ci := 10) (v := .ref (mr 20)) E hw1 inX10 1 3 q_469 rfl rfl (by decide) rfl rfl dX11_look_159 ?_
      refine x_get (pc := 162) (T := TX3) (N := 6) (ci := 3) (v := .int (mi 21)) E hw1 inX3 5 5 q_363 rfl rfl (by decide) rfl rfl dX11_look_162 ?_
      exact em_i (w1 := (fun (u : (Nat → Int32) × (Nat → Nat → Int32) × (Nat → Nat → Int64)) => (WZ_Mlook cI cJ mv mr u.1 u.2.1 u.2.2))) E hr hlk (mi, mf, mg) hw1 ⟨h0.1, h0.2, h1.1, h1.2, h2.1, h2.2, h3.1, h3.2, h4.1, h4.2, h5.1, h5.2, h6.1, h6.2, h7.1, h7.2, rfl, rfl⟩ (Nat.le_of_ble_eq_true rfl) (Nat.le_of_ble_eq_true rfl) dX11_look_165
    · skip
      have hsw_5v : z_what.toInt = 6 := hsw_5
      have hsw_5e : z_what = 6 := Int32.toInt_inj.mp (by rw [hsw_5]; decide +kernel)
      refine lv_tableIn (pc := 9) (off := 157) (tgt := 166) E.1 E.2.1 dX11_look_9 (by rw [hsw_5e]; decide +kernel) (by rw [hsw_5e]; decide +kernel) (by rw [hsw_5e]; decide +kernel) (by decide) ?_
      refine lv_aload_n (pc := 166) E.1 E.2.1 dX11_look_166 rfl (lv_at hl4 1 rfl) ?_
      refine x_get (pc := 167) (T := TX11) (N := 13) (ci := 11) (v := .ref (mr 3)) E hw1 inX11 0 0 q_606 rfl rfl (by decide) rfl rfl dX11_look_167 ?_
      refine x_get (pc := 170) (T := TX10) (N := 17) (ci := 10) (v := .ref (mr 18)) E hw1 inX10 1 2 q_466 rfl rfl (by decide) rfl rfl dX11_look_170 ?_
      refine x_get (pc := 173) (T := TX5) (N := 7) (ci := 5) (v := .int (mi 19)) E hw1 inX5 4 4 q_319 rfl rfl (by decide) rfl rfl dX11_look_173 ?_
      exact em_i (w1 := (fun (u : (Nat → Int32) × (Nat → Nat → Int32) × (Nat → Nat → Int64)) => (WZ_Mlook cI cJ mv mr u.1 u.2.1 u.2.2))) E hr hlk (mi, mf, mg) hw1 ⟨h0.1, h0.2, h1.1, h1.2, h2.1, h2.2, h3.1, h3.2, h4.1, h4.2, h5.1, h5.2, h6.1, h6.2, h7.1, h7.2, rfl, rfl⟩ (Nat.le_of_ble_eq_true rfl) (Nat.le_of_ble_eq_true rfl) dX11_look_176
    · skip
      have hsw_5v : z_what.toInt = 7 := hsw_5
      have hsw_5e : z_what = 7 := Int32.toInt_inj.mp (by rw [hsw_5]; decide +kernel)
      refine lv_tableIn (pc := 9) (off := 168) (tgt := 177) E.1 E.2.1 dX11_look_9 (by rw [hsw_5e]; decide +kernel) (by rw [hsw_5e]; decide +kernel) (by rw [hsw_5e]; decide +kernel) (by decide) ?_
      refine lv_aload_n (pc := 177) E.1 E.2.1 dX11_look_177 rfl (lv_at hl4 1 rfl) ?_
      refine x_get (pc := 178) (T := TX11) (N := 13) (ci := 11) (v := .ref (mr 3)) E hw1 inX11 0 0 q_606 rfl rfl (by decide) rfl rfl dX11_look_178 ?_
      refine x_get (pc := 181) (T := TX10) (N := 17) (ci := 10) (v := .ref (mr 34)) E hw1 inX10 1 6 q_475 rfl rfl (by decide) rfl rfl dX11_look_181 ?_
      refine x_get (pc := 184) (T := TX7) (N := 5) (ci := 7) (v := .int (mi 35)) E hw1 inX7 8 1 q_422 rfl rfl (by decide) rfl rfl dX11_look_184 ?_
      refine lv_aload_n (pc := 187) E.1 E.2.1 dX11_look_187 rfl (lv_at hl4 0 rfl) ?_
      refine x_get (pc := 188) (T := TX4) (N := 12) (ci := 4) (v := .int (mi 14)) E hw1 inX4 2 10 q_229 rfl rfl (by decide) rfl rfl dX11_look_188 ?_
      refine lv_isub (pc := 191) E.1 E.2.1 dX11_look_191 ?_
      refine lv_topi (fun v_6 ev_6 => ?_)
      have hv_6 : v_6.toInt = (mi 35).toInt - (mi 14).toInt := by rw [ev_6]; exact subE rfl rfl (by omega)
      exact em_i (w1 := (fun (u : (Nat → Int32) × (Nat → Nat → Int32) × (Nat → Nat → Int64)) => (WZ_Mlook cI cJ mv mr u.1 u.2.1 u.2.2))) E hr hlk (mi, mf, mg) hw1 ⟨h0.1, h0.2, h1.1, h1.2, h2.1, h2.2, h3.1, h3.2, h4.1, h4.2, h5.1, h5.2, h6.1, h6.2, h7.1, h7.2, rfl, rfl⟩ (Nat.le_of_ble_eq_true rfl) (Nat.le_of_ble_eq_true rfl) dX11_look_192
    · skip
      have hsw_5v : z_what.toInt = 8 := hsw_5
      have hsw_5e : z_what = 8 := Int32.toInt_inj.mp (by rw [hsw_5]; decide +kernel)
      refine lv_tableIn (pc := 9) (off := 184) (tgt := 193) E.1 E.2.1 dX11_look_9 (by rw [hsw_5e]; decide +kernel) (by rw [hsw_5e]; decide +kernel) (by rw [hsw_5e]; decide +kernel) (by decide) ?_
      refine lv_aload_n (pc := 193) E.1 E.2.1 dX11_look_193 rfl (lv_at hl4 1 rfl) ?_
      refine x_get (pc := 194) (T := TX11) (N := 13) (ci := 11) (v := .ref (mr 3)) E hw1 inX11 0 0 q_606 rfl rfl (by decide) rfl rfl dX11_look_194 ?_
      refine x_get (pc := 197) (T := TX10) (N := 17) (ci := 10) (v := .ref (mr 22)) E hw1 inX10 1 4 q_471 rfl rfl (by decide) rfl rfl dX11_look_197 ?_
      refine x_get (pc := 200) (T := TX2) (N := 9) (ci := 2) (v := .int (mi 24)) E hw1 inX2 6 3 q_388 rfl rfl (by decide) rfl rfl dX11_look_200 ?_
      exact em_i (w1 := (fun (u : (Nat → Int32) × (Nat → Nat → Int32) × (Nat → Nat → Int64)) => (WZ_Mlook cI cJ mv mr u.1 u.2.1 u.2.2))) E hr hlk (mi, mf, mg) hw1 ⟨h0.1, h0.2, h1.1, h1.2, h2.1, h2.2, h3.1, h3.2, h4.1, h4.2, h5.1, h5.2, h6.1, h6.2, h7.1, h7.2, rfl, rfl⟩ (Nat.le_of_ble_eq_true rfl) (Nat.le_of_ble_eq_true rfl) dX11_look_203
    · skip
      have hsw_5v : z_what.toInt = 9 := hsw_5
      have hsw_5e : z_what = 9 := Int32.toInt_inj.mp (by rw [hsw_5]; decide +kernel)
      refine lv_tableIn (pc := 9) (off := 195) (tgt := 204) E.1 E.2.1 dX11_look_9 (by rw [hsw_5e]; decide +kernel) (by rw [hsw_5e]; decide +kernel) (by rw [hsw_5e]; decide +kernel) (by decide) ?_
      refine lv_aload_n (pc := 204) E.1 E.2.1 dX11_look_204 rfl (lv_at hl4 1 rfl) ?_
      refine x_get (pc := 205) (T := TX11) (N := 13) (ci := 11) (v := .ref (mr 3)) E hw1 inX11 0 0 q_606 rfl rfl (by decide) rfl rfl dX11_look_205 ?_
      refine x_get (pc := 208) (T := TX10) (N := 17) (ci := 10) (v := .ref (mr 28)) E hw1 inX10 1 5 q_473 rfl rfl (by decide) rfl rfl dX11_look_208 ?_
      refine x_get (pc := 211) (T := TX2) (N := 9) (ci := 2) (v := .int (mi 30)) E hw1 inX2 7 3 q_388 rfl rfl (by decide) rfl rfl dX11_look_211 ?_
      exact em_i (w1 := (fun (u : (Nat → Int32) × (Nat → Nat → Int32) × (Nat → Nat → Int64)) => (WZ_Mlook cI cJ mv mr u.1 u.2.1 u.2.2))) E hr hlk (mi, mf, mg) hw1 ⟨h0.1, h0.2, h1.1, h1.2, h2.1, h2.2, h3.1, h3.2, h4.1, h4.2, h5.1, h5.2, h6.1, h6.2, h7.1, h7.2, rfl, rfl⟩ (Nat.le_of_ble_eq_true rfl) (Nat.le_of_ble_eq_true rfl) dX11_look_214
    · skip
      have hsw_5v : z_what.toInt = 10 := hsw_5
      have hsw_5e : z_what = 10 := Int32.toInt_inj.mp (by rw [hsw_5]; decide +kernel)
      refine lv_tableIn (pc := 9) (off := 206) (tgt := 215) E.1 E.2.1 dX11_look_9 (by rw [hsw_5e]; decide +kernel) (by rw [hsw_5e]; decide +kernel) (by rw [hsw_5e]; decide +kernel) (by decide) ?_
      refine lv_aload_n (pc := 215) E.1 E.2.1 dX11_look_215 rfl (lv_at hl4 1 rfl) ?_
      refine x_get (pc := 216) (T := TX11) (N := 13) (ci := 11) (v := .ref (mr 3)) E hw1 inX11 0 0 q_606 rfl rfl (by decide) rfl rfl dX11_look_216 ?_
      refine x_get (pc := 219) (T := TX10) (N := 17) (ci := 10) (v := .ref (mr 37)) E hw1 inX10 1 7 q_478 rfl rfl (by decide) rfl rfl dX11_look_219 ?_
      refine x_get (pc := 222) (T := TX0) (N := 3) (ci := 0) (v := .int (mi 38)) E hw1 inX0 9 2 q_449 rfl rfl (by decide) rfl rfl dX11_look_222 ?_
      exact em_i (w1 := (fun (u : (Nat → Int32) × (Nat → Nat → Int32) × (Nat → Nat → Int64)) => (WZ_Mlook cI cJ mv mr u.1 u.2.1 u.2.2))) E hr hlk (mi, mf, mg) hw1 ⟨h0.1, h0.2, h1.1, h1.2, h2.1, h2.2, h3.1, h3.2, h4.1, h4.2, h5.1, h5.2, h6.1, h6.2, h7.1, h7.2, rfl, rfl⟩ (Nat.le_of_ble_eq_true rfl) (Nat.le_of_ble_eq_true rfl) dX11_look_225
    · skip
      have hsw_5v : z_what.toInt = 11 := hsw_5
      have hsw_5e : z_what = 11 := Int32.toInt_inj.mp (by rw [hsw_5]; decide +kernel)
      refine lv_tableIn (pc := 9) (off := 217) (tgt := 226) E.1 E.2.1 dX11_look_9 (by rw [hsw_5e]; decide +kernel) (by rw [hsw_5e]; decide +kernel) (by rw [hsw_5e]; decide +kernel) (by decide) ?_
      refine lv_aload_n (pc := 226) E.1 E.2.1 dX11_look_226 rfl (lv_at hl4 1 rfl) ?_
      refine x_get (pc := 227) (T := TX11) (N := 13) (ci := 11) (v := .int (mi 2)) E hw1 inX11 0 10 q_616 rfl rfl (by decide) rfl rfl dX11_look_227 ?_
      exact em_i (w1 := (fun (u : (Nat → Int32) × (Nat → Nat → Int32) × (Nat → Nat → Int64)) => (WZ_Mlook cI cJ mv mr u.1 u.2.1 u.2.2))) E hr hlk (mi, mf, mg) hw1 ⟨h0.1, h0.2, h1.1, h1.2, h2.1, h2.2, h3.1, h3.2, h4.1, h4.2, h5.1, h5.2, h6.1, h6.2, h7.1, h7.2, rfl, rfl⟩ (Nat.le_of_ble_eq_true rfl) (Nat.le_of_ble_eq_true rfl) dX11_look_230
    · skip
      have hsw_5v : z_what.toInt = 12 := hsw_5
      have hsw_5e : z_what = 12 := Int32.toInt_inj.mp (by rw [hsw_5]; decide +kernel)
      refine lv_tableIn (pc := 9) (off := 259) (tgt := 268) E.1 E.2.1 dX11_look_9 (by rw [hsw_5e]; decide +kernel) (by rw [hsw_5e]; decide +kernel) (by rw [hsw_5e]; decide +kernel) (by decide) ?_
      refine lv_sipush (pc := 268) (v := (-1000)) E.1 E.2.1 dX11_look_268 (by decide +kernel) ?_
      exact em_i (w1 := (fun (u : (Nat → Int32) × (Nat → Nat → Int32) × (Nat → Nat → Int64)) => (WZ_Mlook cI cJ mv mr u.1 u.2.1 u.2.2))) E hr hlk (mi, mf, mg) hw1 ⟨h0.1, h0.2, h1.1, h1.2, h2.1, h2.2, h3.1, h3.2, h4.1, h4.2, h5.1, h5.2, h6.1, h6.2, h7.1, h7.2, rfl, rfl⟩ (Nat.le_of_ble_eq_true rfl) (Nat.le_of_ble_eq_true rfl) dX11_look_271
    · skip
      have hsw_5v : z_what.toInt = 13 := hsw_5
      have hsw_5e : z_what = 13 := Int32.toInt_inj.mp (by rw [hsw_5]; decide +kernel)
      refine lv_tableIn (pc := 9) (off := 259) (tgt := 268) E.1 E.2.1 dX11_look_9 (by rw [hsw_5e]; decide +kernel) (by rw [hsw_5e]; decide +kernel) (by rw [hsw_5e]; decide +kernel) (by decide) ?_
      refine lv_sipush (pc := 268) (v := (-1000)) E.1 E.2.1 dX11_look_268 (by decide +kernel) ?_
      exact em_i (w1 := (fun (u : (Nat → Int32) × (Nat → Nat → Int32) × (Nat → Nat → Int64)) => (WZ_Mlook cI cJ mv mr u.1 u.2.1 u.2.2))) E hr hlk (mi, mf, mg) hw1 ⟨h0.1, h0.2, h1.1, h1.2, h2.1, h2.2, h3.1, h3.2, h4.1, h4.2, h5.1, h5.2, h6.1, h6.2, h7.1, h7.2, rfl, rfl⟩ (Nat.le_of_ble_eq_true rfl) (Nat.le_of_ble_eq_true rfl) dX11_look_271
    · skip
      have hsw_5v : z_what.toInt = 14 := hsw_5
      have hsw_5e : z_what = 14 := Int32.toInt_inj.mp (by rw [hsw_5]; decide +kernel)
      refine lv_tableIn (pc := 9) (off := 259) (tgt := 268) E.1 E.2.1 dX11_look_9 (by rw [hsw_5e]; decide +kernel) (by rw [hsw_5e]; decide +kernel) (by rw [hsw_5e]; decide +kernel) (by decide) ?_
      refine lv_sipush (pc := 268) (v := (-1000)) E.1 E.2.1 dX11_look_268 (by decide +kernel) ?_
      exact em_i (w1 := (fun (u : (Nat → Int32) × (Nat → Nat → Int32) × (Nat → Nat → Int64)) => (WZ_Mlook cI cJ mv mr u.1 u.2.1 u.2.2))) E hr hlk (mi, mf, mg) hw1 ⟨h0.1, h0.2, h1.1, h1.2, h2.1, h2.2, h3.1, h3.2, h4.1, h4.2, h5.1, h5.2, h6.1, h6.2, h7.1, h7.2, rfl, rfl⟩ (Nat.le_of_ble_eq_true rfl) (Nat.le_of_ble_eq_true rfl) dX11_look_271
    · skip
      have hsw_5v : z_what.toInt = 15 := hsw_5
      have hsw_5e : z_what = 15 := Int32.toInt_inj.mp (by rw [hsw_5]; decide +kernel)
      refine lv_tableIn (pc := 9) (off := 259) (tgt := 268) E.1 E.2.1 dX11_look_9 (by rw [hsw_5e]; decide +kernel) (by rw [hsw_5e]; decide +kernel) (by rw [hsw_5e]; decide +kernel) (by decide) ?_
      refine lv_sipush (pc := 268) (v := (-1000)) E.1 E.2.1 dX11_look_268 (by decide +kernel) ?_
      exact em_i (w1 := (fun (u : (Nat → Int32) × (Nat → Nat → Int32) × (Nat → Nat → Int64)) => (WZ_Mlook cI cJ mv mr u.1 u.2.1 u.2.2))) E hr hlk (mi, mf, mg) hw1 ⟨h0.1, h0.2, h1.1, h1.2, h2.1, h2.2, h3.1, h3.2, h4.1, h4.2, h5.1, h5.2, h6.1, h6.2, h7.1, h7.2, rfl, rfl⟩ (Nat.le_of_ble_eq_true rfl) (Nat.le_of_ble_eq_true rfl) dX11_look_271
    · skip
      have hsw_5v : z_what.toInt = 16 := hsw_5
      have hsw_5e : z_what = 16 := Int32.toInt_inj.mp (by rw [hsw_5]; decide +kernel)
      refine lv_tableIn (pc := 9) (off := 259) (tgt := 268) E.1 E.2.1 dX11_look_9 (by rw [hsw_5e]; decide +kernel) (by rw [hsw_5e]; decide +kernel) (by rw [hsw_5e]; decide +kernel) (by decide) ?_
      refine lv_sipush (pc := 268) (v := (-1000)) E.1 E.2.1 dX11_look_268 (by decide +kernel) ?_
      exact em_i (w1 := (fun (u : (Nat → Int32) × (Nat → Nat → Int32) × (Nat → Nat → Int64)) => (WZ_Mlook cI cJ mv mr u.1 u.2.1 u.2.2))) E hr hlk (mi, mf, mg) hw1 ⟨h0.1, h0.2, h1.1, h1.2, h2.1, h2.2, h3.1, h3.2, h4.1, h4.2, h5.1, h5.2, h6.1, h6.2, h7.1, h7.2, rfl, rfl⟩ (Nat.le_of_ble_eq_true rfl) (Nat.le_of_ble_eq_true rfl) dX11_look_271
    · skip
      have hsw_5v : z_what.toInt = 17 := hsw_5
      have hsw_5e : z_what = 17 := Int32.toInt_inj.mp (by rw [hsw_5]; decide +kernel)
      refine lv_tableIn (pc := 9) (off := 259) (tgt := 268) E.1 E.2.1 dX11_look_9 (by rw [hsw_5e]; decide +kernel) (by rw [hsw_5e]; decide +kernel) (by rw [hsw_5e]; decide +kernel) (by decide) ?_
      refine lv_sipush (pc := 268) (v := (-1000)) E.1 E.2.1 dX11_look_268 (by decide +kernel) ?_
      exact em_i (w1 := (fun (u : (Nat → Int32) × (Nat → Nat → Int32) × (Nat → Nat → Int64)) => (WZ_Mlook cI cJ mv mr u.1 u.2.1 u.2.2))) E hr hlk (mi, mf, mg) hw1 ⟨h0.1, h0.2, h1.1, h1.2, h2.1, h2.2, h3.1, h3.2, h4.1, h4.2, h5.1, h5.2, h6.1, h6.2, h7.1, h7.2, rfl, rfl⟩ (Nat.le_of_ble_eq_true rfl) (Nat.le_of_ble_eq_true rfl) dX11_look_271
    · skip
      have hsw_5v : z_what.toInt = 18 := hsw_5
      have hsw_5e : z_what = 18 := Int32.toInt_inj.mp (by rw [hsw_5]; decide +kernel)
      refine lv_tableIn (pc := 9) (off := 259) (tgt := 268) E.1 E.2.1 dX11_look_9 (by rw [hsw_5e]; decide +kernel) (by rw [hsw_5e]; decide +kernel) (by rw [hsw_5e]; decide +kernel) (by decide) ?_
      refine lv_sipush (pc := 268) (v := (-1000)) E.1 E.2.1 dX11_look_268 (by decide +kernel) ?_
      exact em_i (w1 := (fun (u : (Nat → Int32) × (Nat → Nat → Int32) × (Nat → Nat → Int64)) => (WZ_Mlook cI cJ mv mr u.1 u.2.1 u.2.2))) E hr hlk (mi, mf, mg) hw1 ⟨h0.1, h0.2, h1.1, h1.2, h2.1, h2.2, h3.1, h3.2, h4.1, h4.2, h5.1, h5.2, h6.1, h6.2, h7.1, h7.2, rfl, rfl⟩ (Nat.le_of_ble_eq_true rfl) (Nat.le_of_ble_eq_true rfl) dX11_look_271
    · skip
      have hsw_5v : z_what.toInt = 19 := hsw_5
      have hsw_5e : z_what = 19 := Int32.toInt_inj.mp (by rw [hsw_5]; decide +kernel)
      refine lv_tableIn (pc := 9) (off := 259) (tgt := 268) E.1 E.2.1 dX11_look_9 (by rw [hsw_5e]; decide +kernel) (by rw [hsw_5e]; decide +kernel) (by rw [hsw_5e]; decide +kernel) (by decide) ?_
      refine lv_sipush (pc := 268) (v := (-1000)) E.1 E.2.1 dX11_look_268 (by decide +kernel) ?_
      exact em_i (w1 := (fun (u : (Nat → Int32) × (Nat → Nat → Int32) × (Nat → Nat → Int64)) => (WZ_Mlook cI cJ mv mr u.1 u.2.1 u.2.2))) E hr hlk (mi, mf, mg) hw1 ⟨h0.1, h0.2, h1.1, h1.2, h2.1, h2.2, h3.1, h3.2, h4.1, h4.2, h5.1, h5.2, h6.1, h6.2, h7.1, h7.2, rfl, rfl⟩ (Nat.le_of_ble_eq_true rfl) (Nat.le_of_ble_eq_true rfl) dX11_look_271
    · skip
      have hsw_5v : z_what.toInt = 20 := hsw_5
      have hsw_5e : z_what = 20 := Int32.toInt_inj.mp (by rw [hsw_5]; decide +kernel)
      refine lv_tableIn (pc := 9) (off := 222) (tgt := 231) E.1 E.2.1 dX11_look_9 (by rw [hsw_5e]; decide +kernel) (by rw [hsw_5e]; decide +kernel) (by rw [hsw_5e]; decide +kernel) (by decide) ?_
      refine lv_aload_n (pc := 231) E.1 E.2.1 dX11_look_231 rfl (lv_at hl4 0 rfl) ?_
      refine x_get (pc := 232) (T := TX4) (N := 12) (ci := 4) (v := .int (mi 12)) E hw1 inX4 2 8 q_225 rfl rfl (by decide) rfl rfl dX11_look_232 ?_
      exact em_i (w1 := (fun (u : (Nat → Int32) × (Nat → Nat → Int32) × (Nat → Nat → Int64)) => (WZ_Mlook cI cJ mv mr u.1 u.2.1 u.2.2))) E hr hlk (mi, mf, mg) hw1 ⟨h0.1, h0.2, h1.1, h1.2, h2.1, h2.2, h3.1, h3.2, h4.1, h4.2, h5.1, h5.2, h6.1, h6.2, h7.1, h7.2, rfl, rfl⟩ (Nat.le_of_ble_eq_true rfl) (Nat.le_of_ble_eq_true rfl) dX11_look_235
    · skip
      have hsw_5v : z_what.toInt = 21 := hsw_5
      have hsw_5e : z_what = 21 := Int32.toInt_inj.mp (by rw [hsw_5]; decide +kernel)
      refine lv_tableIn (pc := 9) (off := 227) (tgt := 236) E.1 E.2.1 dX11_look_9 (by rw [hsw_5e]; decide +kernel) (by rw [hsw_5e]; decide +kernel) (by rw [hsw_5e]; decide +kernel) (by decide) ?_
      refine lv_aload_n (pc := 236) E.1 E.2.1 dX11_look_236 rfl (lv_at hl4 1 rfl) ?_
      refine x_get (pc := 237) (T := TX11) (N := 13) (ci := 11) (v := .ref (mr 3)) E hw1 inX11 0 0 q_606 rfl rfl (by decide) rfl rfl dX11_look_237 ?_
      refine x_get (pc := 240) (T := TX10) (N := 17) (ci := 10) (v := .int (mi 4)) E hw1 inX10 1 9 q_482 rfl rfl (by decide) rfl rfl dX11_look_240 ?_
      exact em_i (w1 := (fun (u : (Nat → Int32) × (Nat → Nat → Int32) × (Nat → Nat → Int64)) => (WZ_Mlook cI cJ mv mr u.1 u.2.1 u.2.2))) E hr hlk (mi, mf, mg) hw1 ⟨h0.1, h0.2, h1.1, h1.2, h2.1, h2.2, h3.1, h3.2, h4.1, h4.2, h5.1, h5.2, h6.1, h6.2, h7.1, h7.2, rfl, rfl⟩ (Nat.le_of_ble_eq_true rfl) (Nat.le_of_ble_eq_true rfl) dX11_look_243
    · skip
      have hsw_5v : z_what.toInt = 22 := hsw_5
      have hsw_5e : z_what = 22 := Int32.toInt_inj.mp (by rw [hsw_5]; decide +kernel)
      refine lv_tableIn (pc := 9) (off := 235) (tgt := 244) E.1 E.2.1 dX11_look_9 (by rw [hsw_5e]; decide +kernel) (by rw [hsw_5e]; decide +kernel) (by rw [hsw_5e]; decide +kernel) (by decide) ?_
      refine lv_aload_n (pc := 244) E.1 E.2.1 dX11_look_244 rfl (lv_at hl4 1 rfl) ?_
      refine x_get (pc := 245) (T := TX11) (N := 13) (ci := 11) (v := .ref (mr 3)) E hw1 inX11 0 0 q_606 rfl rfl (by decide) rfl rfl dX11_look_245 ?_
      refine x_get (pc := 248) (T := TX10) (N := 17) (ci := 10) (v := .int (mi 5)) E hw1 inX10 1 10 q_484 rfl rfl (by decide) rfl rfl dX11_look_248 ?_
      exact em_i (w1 := (fun (u : (Nat → Int32) × (Nat → Nat → Int32) × (Nat → Nat → Int64)) => (WZ_Mlook cI cJ mv mr u.1 u.2.1 u.2.2))) E hr hlk (mi, mf, mg) hw1 ⟨h0.1, h0.2, h1.1, h1.2, h2.1, h2.2, h3.1, h3.2, h4.1, h4.2, h5.1, h5.2, h6.1, h6.2, h7.1, h7.2, rfl, rfl⟩ (Nat.le_of_ble_eq_true rfl) (Nat.le_of_ble_eq_true rfl) dX11_look_251
    · skip
      have hsw_5v : z_what.toInt = 23 := hsw_5
      have hsw_5e : z_what = 23 := Int32.toInt_inj.mp (by rw [hsw_5]; decide +kernel)
      refine lv_tableIn (pc := 9) (off := 243) (tgt := 252) E.1 E.2.1 dX11_look_9 (by rw [hsw_5e]; decide +kernel) (by rw [hsw_5e]; decide +kernel) (by rw [hsw_5e]; decide +kernel) (by decide) ?_
      refine lv_aload_n (pc := 252) E.1 E.2.1 dX11_look_252 rfl (lv_at hl4 1 rfl) ?_
      refine x_get (pc := 253) (T := TX11) (N := 13) (ci := 11) (v := .ref (mr 3)) E hw1 inX11 0 0 q_606 rfl rfl (by decide) rfl rfl dX11_look_253 ?_
      refine x_get (pc := 256) (T := TX10) (N := 17) (ci := 10) (v := .int (mi 6)) E hw1 inX10 1 11 q_487 rfl rfl (by decide) rfl rfl dX11_look_256 ?_
      exact em_i (w1 := (fun (u : (Nat → Int32) × (Nat → Nat → Int32) × (Nat → Nat → Int64)) => (WZ_Mlook cI cJ mv mr u.1 u.2.1 u.2.2))) E hr hlk (mi, mf, mg) hw1 ⟨h0.1, h0.2, h1.1, h1.2, h2.1, h2.2, h3.1, h3.2, h4.1, h4.2, h5.1, h5.2, h6.1, h6.2, h7.1, h7.2, rfl, rfl⟩ (Nat.le_of_ble_eq_true rfl) (Nat.le_of_ble_eq_true rfl) dX11_look_259
    · skip
      have hsw_5v : z_what.toInt = 24 := hsw_5
      have hsw_5e : z_what = 24 := Int32.toInt_inj.mp (by rw [hsw_5]; decide +kernel)
      refine lv_tableIn (pc := 9) (off := 251) (tgt := 260) E.1 E.2.1 dX11_look_9 (by rw [hsw_5e]; decide +kernel) (by rw [hsw_5e]; decide +kernel) (by rw [hsw_5e]; decide +kernel) (by decide) ?_
      refine lv_aload_n (pc := 260) E.1 E.2.1 dX11_look_260 rfl (lv_at hl4 1 rfl) ?_
      refine x_get (pc := 261) (T := TX11) (N := 13) (ci := 11) (v := .ref (mr 3)) E hw1 inX11 0 0 q_606 rfl rfl (by decide) rfl rfl dX11_look_261 ?_
      refine x_get (pc := 264) (T := TX10) (N := 17) (ci := 10) (v := .int (mi 7)) E hw1 inX10 1 12 q_489 rfl rfl (by decide) rfl rfl dX11_look_264 ?_
      exact em_i (w1 := (fun (u : (Nat → Int32) × (Nat → Nat → Int32) × (Nat → Nat → Int64)) => (WZ_Mlook cI cJ mv mr u.1 u.2.1 u.2.2))) E hr hlk (mi, mf, mg) hw1 ⟨h0.1, h0.2, h1.1, h1.2, h2.1, h2.2, h3.1, h3.2, h4.1, h4.2, h5.1, h5.2, h6.1, h6.2, h7.1, h7.2, rfl, rfl⟩ (Nat.le_of_ble_eq_true rfl) (Nat.le_of_ble_eq_true rfl) dX11_look_267
