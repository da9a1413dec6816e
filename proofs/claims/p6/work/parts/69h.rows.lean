set_option maxHeartbeats 4000000 in
set_option maxRecDepth 100000 in
theorem t_take4P (l : Launch) (D : va_G) (cI cJ : ClassId) (sz : Nat) (mr : Nat → Nat) (mi : Nat → Int32) (mf : Nat → Nat → Int32) (mg : Nat → Nat → Int64) (z_k : Int32) (ad : Nat → Nat) (mv : Nat → Value) (h0 : 0 ≤ (mi 1).toInt ∧ (mi 1).toInt ≤ 5) (h1 : 0 ≤ (mi 2).toInt ∧ (mi 2).toInt ≤ 6) (h2 : 0 ≤ (mi 9).toInt ∧ (mi 9).toInt ≤ 10) (h3 : 0 ≤ (mi 16).toInt ∧ (mi 16).toInt ≤ 200) (h4 : 0 ≤ (mi 20).toInt ∧ (mi 20).toInt ≤ 200) (h5 : 0 ≤ (mi 26).toInt ∧ (mi 26).toInt ≤ 400) (h6 : 0 ≤ (mi 27).toInt ∧ (mi 27).toInt ≤ 6) (h7 : 0 ≤ (mi 32).toInt ∧ (mi 32).toInt ≤ 4) (h8 : z_k.toInt = 4) (h9 : 0 ≤ (mi 36).toInt ∧ (mi 36).toInt ≤ 200) : Met l yX11_takeDraft (Cond.code yX11_takeDraft cX11_takeDraft 2 (some .int) :: GW) ({ frames := 3, cells := 0, slots := 0, locals := 82 } : Room) (va_Pc [.ref (mr 0), .int z_k] (PW D cI cJ sz (WZ_Ltext4P cI cJ ad mv mr mi mf mg) xT)) (va_Qi (fun (r : Int32) (u : (Nat → Int32) × (Nat → Nat → Int32) × (Nat → Nat → Int64)) => (0 ≤ (u.1 1).toInt) ∧ ((u.1 1).toInt ≤ 5) ∧ (0 ≤ (u.1 2).toInt) ∧ ((u.1 2).toInt ≤ 6) ∧ (0 ≤ (u.1 9).toInt) ∧ ((u.1 9).toInt ≤ 10) ∧ (0 ≤ (u.1 16).toInt) ∧ ((u.1 16).toInt ≤ 200) ∧ (0 ≤ (u.1 20).toInt) ∧ ((u.1 20).toInt ≤ 200) ∧ (0 ≤ (u.1 26).toInt) ∧ ((u.1 26).toInt ≤ 400) ∧ (0 ≤ (u.1 27).toInt) ∧ ((u.1 27).toInt ≤ 6) ∧ (0 ≤ (u.1 32).toInt) ∧ ((u.1 32).toInt ≤ 4) ∧ ((u.1 26).toInt = (mi 26).toInt)) (fun u => QW D cI cJ (va_A (WZ_Ltext4P cI cJ ad mv mr mi mf mg) sz) ((fun (u : (Nat → Int32) × (Nat → Nat → Int32) × (Nat → Nat → Int64)) => (WZ_Ltext4P cI cJ ad mv mr u.1 u.2.1 u.2.2)) u)) (va_A (WZ_Ltext4P cI cJ ad mv mr mi mf mg) sz)) 0 0 (va_A (WZ_Ltext4P cI cJ ad mv mr mi mf mg) sz) := by
  refine mk_met (y := yX11_takeDraft) (bytes := cX11_takeDraft) (maxL := 2) (avs := [.ref (mr 0), .int z_k]) (WS := (WZ_Ltext4P cI cJ ad mv mr mi mf mg)) (Qf := fun A => va_Qi (fun (r : Int32) (u : (Nat → Int32) × (Nat → Nat → Int32) × (Nat → Nat → Int64)) => (0 ≤ (u.1 1).toInt) ∧ ((u.1 1).toInt ≤ 5) ∧ (0 ≤ (u.1 2).toInt) ∧ ((u.1 2).toInt ≤ 6) ∧ (0 ≤ (u.1 9).toInt) ∧ ((u.1 9).toInt ≤ 10) ∧ (0 ≤ (u.1 16).toInt) ∧ ((u.1 16).toInt ≤ 200) ∧ (0 ≤ (u.1 20).toInt) ∧ ((u.1 20).toInt ≤ 200) ∧ (0 ≤ (u.1 26).toInt) ∧ ((u.1 26).toInt ≤ 400) ∧ (0 ≤ (u.1 27).toInt) ∧ ((u.1 27).toInt ≤ 6) ∧ (0 ≤ (u.1 32).toInt) ∧ ((u.1 32).toInt ≤ 4) ∧ ((u.1 26).toInt = (mi 26).toInt)) (fun u => QW D cI cJ A ((fun (u : (Nat → Int32) × (Nat → Nat → Int32) × (Nat → Nat → Int64)) => (WZ_Ltext4P cI cJ ad mv mr u.1 u.2.1 u.2.2)) u)) A) (by decide) (Nat.le_of_ble_eq_true rfl) ?_
  intro p e s m below meth c A ls E hr hlk hnm hX hw1 hl2
  have hl3 : lv_has ls 2 [(0, .ref (mr 0)), (1, .int z_k)] := hl2
  refine lv_iload_n (pc := 0) E.1 E.2.1 dX11_takeDraft_0 rfl (lv_at hl3 1 rfl) ?_
  rcases swt (x := z_k) 0 4 with hsw_4 | ⟨hsw_4k, hsw_41, hsw_42, hsw_4⟩
  · skip
    exfalso; omega
  · skip
    rcases (show hsw_4k = 0 ∨ hsw_4k = 1 ∨ hsw_4k = 2 ∨ hsw_4k = 3 ∨ hsw_4k = 4 from by omega) with rfl | rfl | rfl | rfl | rfl
    · skip
      have hsw_4v : z_k.toInt = 0 := hsw_4
      have hsw_4e : z_k = 0 := Int32.toInt_inj.mp (by rw [hsw_4]; decide +kernel)
      refine lv_tableIn (pc := 1) (off := 35) (tgt := 36) E.1 E.2.1 dX11_takeDraft_1 (by rw [hsw_4e]; decide +kernel) (by rw [hsw_4e]; decide +kernel) (by rw [hsw_4e]; decide +kernel) (by decide) ?_
      exfalso; omega
    · skip
      have hsw_4v : z_k.toInt = 1 := hsw_4
      have hsw_4e : z_k = 1 := Int32.toInt_inj.mp (by rw [hsw_4]; decide +kernel)
      refine lv_tableIn (pc := 1) (off := 57) (tgt := 58) E.1 E.2.1 dX11_takeDraft_1 (by rw [hsw_4e]; decide +kernel) (by rw [hsw_4e]; decide +kernel) (by rw [hsw_4e]; decide +kernel) (by decide) ?_
      exfalso; omega
    · skip
      have hsw_4v : z_k.toInt = 2 := hsw_4
      have hsw_4e : z_k = 2 := Int32.toInt_inj.mp (by rw [hsw_4]; decide +kernel)
      refine lv_tableIn (pc := 1) (off := 79) (tgt := 80) E.1 E.2.1 dX11_takeDraft_1 (by rw [hsw_4e]; decide +kernel) (by rw [hsw_4e]; decide +kernel) (by rw [hsw_4e]; decide +kernel) (by decide) ?_
      exfalso; omega
    · skip
      have hsw_4v : z_k.toInt = 3 := hsw_4
      have hsw_4e : z_k = 3 := Int32.toInt_inj.mp (by rw [hsw_4]; decide +kernel)
      refine lv_tableIn (pc := 1) (off := 105) (tgt := 106) E.1 E.2.1 dX11_takeDraft_1 (by rw [hsw_4e]; decide +kernel) (by rw [hsw_4e]; decide +kernel) (by rw [hsw_4e]; decide +kernel) (by decide) ?_
      exfalso; omega
    · skip
      have hsw_4v : z_k.toInt = 4 := hsw_4
      have hsw_4e : z_k = 4 := Int32.toInt_inj.mp (by rw [hsw_4]; decide +kernel)
      refine lv_tableIn (pc := 1) (off := 141) (tgt := 142) E.1 E.2.1 dX11_takeDraft_1 (by rw [hsw_4e]; decide +kernel) (by rw [hsw_4e]; decide +kernel) (by rw [hsw_4e]; decide +kernel) (by decide) ?_
      refine lv_aload_n (pc := 142) E.1 E.2.1 dX11_takeDraft_142 rfl (lv_at hl3 0 rfl) ?_
      refine x_get (pc := 143) (T := TX11) (N := 13) (ci := 11) (v := .ref (mr 3)) E hw1 inX11 0 0 q_606 rfl rfl (by decide) rfl rfl dX11_takeDraft_143 ?_
      refine x_get (pc := 146) (T := TX10) (N := 17) (ci := 10) (v := .ref (mr 18)) E hw1 inX10 1 6 q_475 rfl rfl (by decide) rfl rfl dX11_takeDraft_146 ?_
      refine lv_aload_n (pc := 149) E.1 E.2.1 dX11_takeDraft_149 rfl (lv_at hl3 0 rfl) ?_
      refine x_get (pc := 150) (T := TX11) (N := 13) (ci := 11) (v := .ref (mr 34)) E hw1 inX11 0 6 q_612 rfl rfl (by decide) rfl rfl dX11_takeDraft_150 ?_
      refine cq_v (pc := 153) (ws' := (fun (u : (Nat → Int32) × Int32) => (WZ_Ltext4P cI cJ ad mv mr (upd mi 20 u.2) (va_up mf 19 u.1) mg))) hw1 [4, 5, 6, 7, 10, 11, 12, 13] [0, 1, 2, 3, 8, 9, 14] [0, 1, 2, 3, 7, 8, 9, 10, 4, 5, 11, 12, 13, 14, 6] rfl rfl (by decide) (by decide) (fun _ => rfl) (by decide) (rn_V (As := [.ref (mr 34)]) (rest := []) E hw1 (t_roundTake l D cI cJ _ (ixf [18, 19, 20, 21, 22, 23, 34, 35, 36, 37, 38, 39] mr) (ixf [18, 19, 20, 21, 22, 23, 34, 35, 36, 37, 38, 39] mi) (ixf [18, 19, 20, 21, 22, 23, 34, 35, 36, 37, 38, 39] mf) (ixf [18, 19, 20, 21, 22, 23, 34, 35, 36, 37, 38, 39] mg) ) (gdV q_982 q_983 q_984 q_158 q_985) hdV_X7_take ⟨rfl, rfl⟩ ⟨(Nat.le_of_ble_eq_true rfl), (Nat.le_of_ble_eq_true rfl)⟩ ⟨(Nat.le_of_ble_eq_true rfl), (Nat.le_of_ble_eq_true rfl)⟩ xT_b xT_at 4 7 rfl rfl rfl [4, 5, 6, 7, 10, 11, 12, 13] rfl (by decide) rfl hl3.1 rfl (Nat.le_of_ble_eq_true rfl) dX11_takeDraft_153) (fun u_5 H1 locs hp hw7 => ?_)
      obtain ⟨gstops_8, nsize_9⟩ := u_5
      generalize H1 = H at hw7 ⊢
      have hw10 : WD D A s.heap (WZ_Ltext4P cI cJ ad mv mr (upd mi 20 nsize_9) (va_up mf 19 gstops_8) mg) H locs := hw7
      have hp_11 := hp
      have hp_11 : nsize_9.toInt = (mi 36).toInt := hp_11
      refine lv_aload_n (pc := 156) E.1 E.2.1 dX11_takeDraft_156 rfl (lv_at hl3 0 rfl) ?_
      refine x_get (pc := 157) (T := TX11) (N := 13) (ci := 11) (v := .ref (mr 3)) E hw10 inX11 0 0 q_606 rfl rfl (by decide) rfl rfl dX11_takeDraft_157 ?_
      refine x_get (pc := 160) (T := TX10) (N := 17) (ci := 10) (v := .ref (mr 10)) E hw10 inX10 1 0 q_458 rfl rfl (by decide) rfl rfl dX11_takeDraft_160 ?_
      refine lv_iconst (pc := 163) (v := 0) E.1 E.2.1 dX11_takeDraft_163 (by decide +kernel) ?_
      refine x_put (pc := 164) (T := TX4) (N := 12) (ci := 4) (ws' := (WZ_Ltext4P cI cJ ad mv mr (upd (upd mi 16 0) 20 nsize_9) (va_up mf 19 gstops_8) mg)) E hw10 inX4 tyX4_ok nmX4 3 10 q_229 rfl rfl (by decide) rfl rfl rfl rfl (Nat.le_of_ble_eq_true rfl) rfl dX11_takeDraft_164 (fun H locs hw12 => ?_)
      refine lv_aload_n (pc := 167) E.1 E.2.1 dX11_takeDraft_167 rfl (lv_at hl3 0 rfl) ?_
      refine cq_v (pc := 168) (ws' := (fun (u : Int32 × Int32 × Int32) => (WZ_Ltext4P cI cJ ad mv mr (upd (upd (upd (upd (upd mi 1 u.1) 2 u.2.1) 16 0) 20 nsize_9) 41 u.2.2) (va_up mf 19 gstops_8) mg))) hw12 [0, 14] [1, 2, 3, 4, 5, 6, 7, 8, 9, 10, 11, 12, 13] [13, 0, 1, 2, 3, 4, 5, 6, 7, 8, 9, 10, 11, 12, 14] rfl rfl (by decide) (by decide) (fun _ => rfl) (by decide) (rn_V (As := []) (rest := []) E hw12 (t_forgetNightsP l D cI cJ _ (ixf [0, 1, 2, 40, 41, 42, 43, 44] mr) (ixf [0, 1, 2, 40, 41, 42, 43, 44] (upd (upd mi 16 0) 20 nsize_9)) (ixf [0, 1, 2, 40, 41, 42, 43, 44] (va_up mf 19 gstops_8)) (ixf [0, 1, 2, 40, 41, 42, 43, 44] mg) (vl [.ref (mr 3), mv 0, .ref (mr 24), mv 1, mv 2, mv 3, .ref (mr 34), mv 4, mv 5, mv 6, mv 30, mv 31, mv 32, mv 33, mv 34, mv 35])) (gdV q_650 q_652 q_0 q_151 q_653) hdV_X11_forgetNights ⟨rfl, rfl⟩ ⟨(Nat.le_of_ble_eq_true rfl), (Nat.le_of_ble_eq_true rfl)⟩ ⟨(Nat.le_of_ble_eq_true rfl), (Nat.le_of_ble_eq_true rfl)⟩ xT_b xT_at 0 11 rfl rfl rfl [0, 14] rfl (by decide) rfl hl3.1 rfl (Nat.le_of_ble_eq_true rfl) dX11_takeDraft_168) (fun u_13 H1 locs hp hw15 => ?_)
      obtain ⟨noldest_16, nundoable_17, nplplanned_18⟩ := u_13
      generalize H1 = H at hw15 ⊢
      have hw19 : WD D A s.heap (WZ_Ltext4P cI cJ ad mv mr (upd (upd (upd (upd (upd mi 1 noldest_16) 2 nundoable_17) 16 0) 20 nsize_9) 41 nplplanned_18) (va_up mf 19 gstops_8) mg) H locs := hw15
      obtain ⟨hp_20, hp_21⟩ := hp
      have hp_20 : noldest_16.toInt = 0 := hp_20
      have hp_21 : nundoable_17.toInt = 0 := hp_21
      refine lv_aload_n (pc := 171) E.1 E.2.1 dX11_takeDraft_171 rfl (lv_at hl3 0 rfl) ?_
      refine x_get (pc := 172) (T := TX11) (N := 13) (ci := 11) (v := .ref (mr 34)) E hw19 inX11 0 6 q_612 rfl rfl (by decide) rfl rfl dX11_takeDraft_172 ?_
      refine x_get (pc := 175) (T := TX7) (N := 5) (ci := 7) (v := .int (mi 36)) E hw19 inX7 10 1 q_422 rfl rfl (by decide) rfl rfl dX11_takeDraft_175 ?_
      exact em_i (w1 := (fun (u : (Nat → Int32) × (Nat → Nat → Int32) × (Nat → Nat → Int64)) => (WZ_Ltext4P cI cJ ad mv mr u.1 u.2.1 u.2.2))) E hr hlk ((upd (upd (upd (upd (upd mi 1 noldest_16) 2 nundoable_17) 16 0) 20 nsize_9) 41 nplplanned_18), (va_up mf 19 gstops_8), mg) hw19 ⟨(by show 0 ≤ noldest_16.toInt; have k_0 : (0 : Int32).toInt = 0 := (by decide +kernel); omega), (by show noldest_16.toInt ≤ 5; have k_0 : (0 : Int32).toInt = 0 := (by decide +kernel); omega), (by show 0 ≤ nundoable_17.toInt; have k_0 : (0 : Int32).toInt = 0 := (by decide +kernel); omega), (by show nundoable_17.toInt ≤ 6; have k_0 : (0 : Int32).toInt = 0 := (by decide +kernel); omega), (by show 0 ≤ (mi 9).toInt; have k_0 : (0 : Int32).toInt = 0 := (by decide +kernel); omega), (by show (mi 9).toInt ≤ 10; have k_0 : (0 : Int32).toInt = 0 := (by decide +kernel); omega), (by show 0 ≤ (0 : Int32).toInt; have k_0 : (0 : Int32).toInt = 0 := (by decide +kernel); omega), (by show (0 : Int32).toInt ≤ 200; have k_0 : (0 : Int32).toInt = 0 := (by decide +kernel); omega), (by show 0 ≤ nsize_9.toInt; have k_0 : (0 : Int32).toInt = 0 := (by decide +kernel); omega), (by show nsize_9.toInt ≤ 200; have k_0 : (0 : Int32).toInt = 0 := (by decide +kernel); omega), (by show 0 ≤ (mi 26).toInt; have k_0 : (0 : Int32).toInt = 0 := (by decide +kernel); omega), (by show (mi 26).toInt ≤ 400; have k_0 : (0 : Int32).toInt = 0 := (by decide +kernel); omega), (by show 0 ≤ (mi 27).toInt; have k_0 : (0 : Int32).toInt = 0 := (by decide +kernel); omega), (by show (mi 27).toInt ≤ 6; have k_0 : (0 : Int32).toInt = 0 := (by decide +kernel); omega), (by show 0 ≤ (mi 32).toInt; have k_0 : (0 : Int32).toInt = 0 := (by decide +kernel); omega), (by show (mi 32).toInt ≤ 4; have k_0 : (0 : Int32).toInt = 0 := (by decide +kernel); omega), (by show (mi 26).toInt = (mi 26).toInt; have k_0 : (0 : Int32).toInt = 0 := (by decide +kernel); omega)⟩ (Nat.le_of_ble_eq_true rfl) (Nat.le_of_ble_eq_true rfl) dX11_takeDraft_178
set_option maxHeartbeats 4000000 in
set_option maxRecDepth 100000 in
theorem t_text4P (l : Launch) (D : va_G) (cI cJ : ClassId) (sz : Nat) (mr : Nat → Nat) (mi : Nat → Int32) (mf : Nat → Nat → Int32) (mg : Nat → Nat → Int64) (z_k : Int32) (ad av : Nat → Nat) (tf : Value) (mv : Nat → Value) (h0 : 0 ≤ (mi 1).toInt ∧ (mi 1).toInt ≤ 5) (h1 : 0 ≤ (mi 2).toInt ∧ (mi 2).toInt ≤ 6) (h2 : 0 ≤ (mi 9).toInt ∧ (mi 9).toInt ≤ 10) (h3 : 0 ≤ (mi 16).toInt ∧ (mi 16).toInt ≤ 200) (h4 : 0 ≤ (mi 20).toInt ∧ (mi 20).toInt ≤ 200) (h5 : 0 ≤ (mi 26).toInt ∧ (mi 26).toInt ≤ 400) (h6 : 0 ≤ (mi 27).toInt ∧ (mi 27).toInt ≤ 6) (h7 : 0 ≤ (mi 32).toInt ∧ (mi 32).toInt ≤ 4) (h8 : z_k.toInt = 4) : Met l yX11_text (Cond.code yX11_text cX11_text 3 (some .int) :: GW) ({ frames := 11, cells := 0, slots := 0, locals := 263 } : Room) (va_Pc [.ref (mr 0), .int z_k] (PW D cI cJ sz (WZ_Ltext4P cI cJ ad mv mr mi mf mg) (xT8 ad av tf (va_A (WZ_Ltext4P cI cJ ad mv mr mi mf mg) sz)))) (va_Qi (fun (r : Int32) (u : (Nat → Int32) × (Nat → Nat → Int32) × (Nat → Nat → Int64)) => (0 ≤ (u.1 1).toInt) ∧ ((u.1 1).toInt ≤ 5) ∧ (0 ≤ (u.1 2).toInt) ∧ ((u.1 2).toInt ≤ 6) ∧ (0 ≤ (u.1 9).toInt) ∧ ((u.1 9).toInt ≤ 10) ∧ (0 ≤ (u.1 16).toInt) ∧ ((u.1 16).toInt ≤ 200) ∧ (0 ≤ (u.1 20).toInt) ∧ ((u.1 20).toInt ≤ 200) ∧ (0 ≤ (u.1 26).toInt) ∧ ((u.1 26).toInt ≤ 400) ∧ (0 ≤ (u.1 27).toInt) ∧ ((u.1 27).toInt ≤ 6) ∧ (0 ≤ (u.1 32).toInt) ∧ ((u.1 32).toInt ≤ 4) ∧ ((u.1 26).toInt = 0)) (fun u => QW D cI cJ (va_A (WZ_Ltext4P cI cJ ad mv mr mi mf mg) sz) ((fun (u : (Nat → Int32) × (Nat → Nat → Int32) × (Nat → Nat → Int64)) => (WZ_Ltext4P cI cJ ad mv mr u.1 u.2.1 u.2.2)) u)) (va_A (WZ_Ltext4P cI cJ ad mv mr mi mf mg) sz)) 0 0 (va_A (WZ_Ltext4P cI cJ ad mv mr mi mf mg) sz) := by
  refine mk_metA (X := fun A => xT8 ad av tf A) (y := yX11_text) (bytes := cX11_text) (maxL := 3) (avs := [.ref (mr 0), .int z_k]) (WS := (WZ_Ltext4P cI cJ ad mv mr mi mf mg)) (Qf := fun A => va_Qi (fun (r : Int32) (u : (Nat → Int32) × (Nat → Nat → Int32) × (Nat → Nat → Int64)) => (0 ≤ (u.1 1).toInt) ∧ ((u.1 1).toInt ≤ 5) ∧ (0 ≤ (u.1 2).toInt) ∧ ((u.1 2).toInt ≤ 6) ∧ (0 ≤ (u.1 9).toInt) ∧ ((u.1 9).toInt ≤ 10) ∧ (0 ≤ (u.1 16).toInt) ∧ ((u.1 16).toInt ≤ 200) ∧ (0 ≤ (u.1 20).toInt) ∧ ((u.1 20).toInt ≤ 200) ∧ (0 ≤ (u.1 26).toInt) ∧ ((u.1 26).toInt ≤ 400) ∧ (0 ≤ (u.1 27).toInt) ∧ ((u.1 27).toInt ≤ 6) ∧ (0 ≤ (u.1 32).toInt) ∧ ((u.1 32).toInt ≤ 4) ∧ ((u.1 26).toInt = 0)) (fun u => QW D cI cJ A ((fun (u : (Nat → Int32) × (Nat → Nat → Int32) × (Nat → Nat → Int64)) => (WZ_Ltext4P cI cJ ad mv mr u.1 u.2.1 u.2.2)) u)) A) (by decide) (Nat.le_of_ble_eq_true rfl) ?_
  intro p e s m below meth c A ls E hr hlk hnm hX hw1 hl2
  have hl3 : lv_has ls 3 [(0, .ref (mr 0)), (1, .int z_k)] := hl2
  refine lv_aload_n (pc := 0) E.1 E.2.1 dX11_text_0 rfl (lv_at hl3 0 rfl) ?_
  refine x_get (pc := 1) (T := TX11) (N := 13) (ci := 11) (v := .ref (mr 3)) E hw1 inX11 0 0 q_606 rfl rfl (by decide) rfl rfl dX11_text_1 ?_
  refine x_get (pc := 4) (T := TX10) (N := 17) (ci := 10) (v := .ref (mr 8)) E hw1 inX10 1 1 q_463 rfl rfl (by decide) rfl rfl dX11_text_4 ?_
  refine x_get (pc := 7) (T := TX1) (N := 9) (ci := 1) (v := .int (mi 9)) E hw1 inX1 2 5 q_282 rfl rfl (by decide) rfl rfl dX11_text_7 ?_
  refine lv_istore_n (pc := 10) (lv' := [(2, .int (mi 9)), (0, .ref (mr 0)), (1, .int z_k)]) E.1 E.2.1 dX11_text_10 rfl hl3 (by decide) rfl (fun ls hl4 => ?_)
  refine lv_aload_n (pc := 11) E.1 E.2.1 dX11_text_11 rfl (lv_at hl4 1 rfl) ?_
  refine x_get (pc := 12) (T := TX11) (N := 13) (ci := 11) (v := .ref (mr 24)) E hw1 inX11 0 2 q_608 rfl rfl (by decide) rfl rfl dX11_text_12 ?_
  refine lv_iload_n (pc := 15) E.1 E.2.1 dX11_text_15 rfl (lv_at hl4 2 rfl) ?_
  refine cq_v (pc := 16) (ws' := (fun (u : Int32 × Int32 × Int32 × Int32 × Int32 × Int32 × Int32) => (WZ_Ltext4P cI cJ ad mv mr (upd (upd (upd (upd (upd (upd (upd mi 27 u.2.2.2.2.1) 28 u.1) 29 u.2.2.1) 30 u.2.2.2.1) 31 u.2.1) 32 u.2.2.2.2.2.1) 33 u.2.2.2.2.2.2) mf mg))) hw1 [8, 9] [0, 1, 2, 3, 4, 5, 6, 7, 10, 11, 12, 13, 14] [0, 1, 2, 3, 4, 5, 6, 7, 13, 14, 8, 9, 10, 11, 12] rfl rfl (by decide) (by decide) (fun _ => rfl) (by decide) (rn_V (As := [.int z_k]) (rest := []) E hw1 (t_open l D cI cJ _ (ixf [24, 25, 26, 27, 28, 29, 30, 31, 32, 33] mr) (ixf [24, 25, 26, 27, 28, 29, 30, 31, 32, 33] mi) (ixf [24, 25, 26, 27, 28, 29, 30, 31, 32, 33] mf) (ixf [24, 25, 26, 27, 28, 29, 30, 31, 32, 33] mg) z_k ad av tf (by show 0 ≤ (mi 26).toInt ∧ (mi 26).toInt ≤ 400; omega)) (gdV q_710 q_711 q_712 q_160 q_713) hdV_X8_open ⟨rfl, rfl⟩ ⟨(Nat.le_of_ble_eq_true rfl), (Nat.le_of_ble_eq_true rfl)⟩ ⟨(Nat.le_of_ble_eq_true rfl), (Nat.le_of_ble_eq_true rfl)⟩ xT8_b (xT8_at hX hw1.2.2.1 (va_free hw1.2.1 hw1.2.2.1 hw1.2.2.2 [8, 9] rfl)) 8 8 rfl rfl rfl [8, 9] rfl (by decide) rfl hl4.1 rfl (Nat.le_of_ble_eq_true rfl) dX11_text_16) (fun u_5 H1 locs hp hw7 => ?_)
  obtain ⟨nat_8, nplace_9, nkind_10, nvalue_11, nwords_12, nfault_13, nfaultPlace_14⟩ := u_5
  generalize H1 = H at hw7 ⊢
  have hw15 : WD D A s.heap (WZ_Ltext4P cI cJ ad mv mr (upd (upd (upd (upd (upd (upd (upd mi 27 nwords_12) 28 nat_8) 29 nkind_10) 30 nvalue_11) 31 nplace_9) 32 nfault_13) 33 nfaultPlace_14) mf mg) H locs := hw7
  obtain ⟨hp_16, hp_17, hp_18, hp_19, hp_20⟩ := hp
  have hp_16 : 0 ≤ nat_8.toInt := hp_16
  have hp_17 : nat_8.toInt ≤ (mi 26).toInt := hp_17
  have hp_18 : 0 ≤ nwords_12.toInt := hp_18
  have hp_19 : nwords_12.toInt ≤ 6 := hp_19
  have hp_20 : nfault_13.toInt = 0 := hp_20
  refine lv_iload_n (pc := 19) E.1 E.2.1 dX11_text_19 rfl (lv_at hl4 2 rfl) ?_
  rcases swt (x := z_k) 0 4 with hsw_21 | ⟨hsw_21k, hsw_211, hsw_212, hsw_21⟩
  · skip
    exfalso; omega
  · skip
    rcases (show hsw_21k = 0 ∨ hsw_21k = 1 ∨ hsw_21k = 2 ∨ hsw_21k = 3 ∨ hsw_21k = 4 from by omega) with rfl | rfl | rfl | rfl | rfl
    · skip
      have hsw_21v : z_k.toInt = 0 := hsw_21
      have hsw_21e : z_k = 0 := Int32.toInt_inj.mp (by rw [hsw_21]; decide +kernel)
      refine lv_tableIn (pc := 20) (off := 36) (tgt := 56) E.1 E.2.1 dX11_text_20 (by rw [hsw_21e]; decide +kernel) (by rw [hsw_21e]; decide +kernel) (by rw [hsw_21e]; decide +kernel) (by decide) ?_
      exfalso; omega
    · skip
      have hsw_21v : z_k.toInt = 1 := hsw_21
      have hsw_21e : z_k = 1 := Int32.toInt_inj.mp (by rw [hsw_21]; decide +kernel)
      refine lv_tableIn (pc := 20) (off := 36) (tgt := 56) E.1 E.2.1 dX11_text_20 (by rw [hsw_21e]; decide +kernel) (by rw [hsw_21e]; decide +kernel) (by rw [hsw_21e]; decide +kernel) (by decide) ?_
      exfalso; omega
    · skip
      have hsw_21v : z_k.toInt = 2 := hsw_21
      have hsw_21e : z_k = 2 := Int32.toInt_inj.mp (by rw [hsw_21]; decide +kernel)
      refine lv_tableIn (pc := 20) (off := 50) (tgt := 70) E.1 E.2.1 dX11_text_20 (by rw [hsw_21e]; decide +kernel) (by rw [hsw_21e]; decide +kernel) (by rw [hsw_21e]; decide +kernel) (by decide) ?_
      exfalso; omega
    · skip
      have hsw_21v : z_k.toInt = 3 := hsw_21
      have hsw_21e : z_k = 3 := Int32.toInt_inj.mp (by rw [hsw_21]; decide +kernel)
      refine lv_tableIn (pc := 20) (off := 65) (tgt := 85) E.1 E.2.1 dX11_text_20 (by rw [hsw_21e]; decide +kernel) (by rw [hsw_21e]; decide +kernel) (by rw [hsw_21e]; decide +kernel) (by decide) ?_
      exfalso; omega
    · skip
      have hsw_21v : z_k.toInt = 4 := hsw_21
      have hsw_21e : z_k = 4 := Int32.toInt_inj.mp (by rw [hsw_21]; decide +kernel)
      refine lv_tableIn (pc := 20) (off := 80) (tgt := 100) E.1 E.2.1 dX11_text_20 (by rw [hsw_21e]; decide +kernel) (by rw [hsw_21e]; decide +kernel) (by rw [hsw_21e]; decide +kernel) (by decide) ?_
      refine lv_aload_n (pc := 100) E.1 E.2.1 dX11_text_100 rfl (lv_at hl4 1 rfl) ?_
      refine x_get (pc := 101) (T := TX11) (N := 13) (ci := 11) (v := .ref (mr 34)) E hw15 inX11 0 6 q_612 rfl rfl (by decide) rfl rfl dX11_text_101 ?_
      refine lv_aload_n (pc := 104) E.1 E.2.1 dX11_text_104 rfl (lv_at hl4 1 rfl) ?_
      refine x_get (pc := 105) (T := TX11) (N := 13) (ci := 11) (v := .ref (mr 24)) E hw15 inX11 0 2 q_608 rfl rfl (by decide) rfl rfl dX11_text_105 ?_
      refine lv_iload_n (pc := 108) E.1 E.2.1 dX11_text_108 rfl (lv_at hl4 0 rfl) ?_
      refine cq_v (pc := 109) (ws' := (fun (u : Int32 × Int32 × Int32 × Int32 × Int32 × Int32 × Int32 × Int32 × (Nat → Int32) × (Nat → Int32) × (Nat → Int32)) => (WZ_Ltext4P cI cJ ad mv mr (upd (upd (upd (upd (upd (upd (upd (upd (upd mi 27 nwords_12) 28 u.1) 29 u.2.2.1) 30 u.2.2.2.1) 31 u.2.1) 32 u.2.2.2.2.1) 33 u.2.2.2.2.2.1) 36 u.2.2.2.2.2.2.1) 39 u.2.2.2.2.2.2.2.1) (va_up (va_up (va_up mf 35 u.2.2.2.2.2.2.2.2.1) 37 u.2.2.2.2.2.2.2.2.2.1) 38 u.2.2.2.2.2.2.2.2.2.2) mg))) hw15 [10, 11, 12, 13, 8, 9] [0, 1, 2, 3, 4, 5, 6, 7, 14] [0, 1, 2, 3, 4, 5, 6, 7, 13, 14, 9, 10, 11, 12, 8] rfl rfl (by decide) (by decide) (fun _ => rfl) (by decide) (rn_V (As := [.ref (mr 24), .int (mi 9)]) (rest := []) E hw15 (t_roundRead l D cI cJ _ (ixf [34, 35, 36, 37, 38, 39, 24, 25, 26, 27, 28, 29, 30, 31, 32, 33] mr) (ixf [34, 35, 36, 37, 38, 39, 24, 25, 26, 27, 28, 29, 30, 31, 32, 33] (upd (upd (upd (upd (upd (upd (upd mi 27 nwords_12) 28 nat_8) 29 nkind_10) 30 nvalue_11) 31 nplace_9) 32 nfault_13) 33 nfaultPlace_14)) (ixf [34, 35, 36, 37, 38, 39, 24, 25, 26, 27, 28, 29, 30, 31, 32, 33] mf) (ixf [34, 35, 36, 37, 38, 39, 24, 25, 26, 27, 28, 29, 30, 31, 32, 33] mg) (mi 9) ad av tf (by show 0 ≤ (mi 26).toInt ∧ (mi 26).toInt ≤ 400; omega) (by show 0 ≤ nat_8.toInt; omega) (by show nat_8.toInt ≤ (mi 26).toInt; omega) (by show 0 ≤ nwords_12.toInt ∧ nwords_12.toInt ≤ 6; omega) (by show 0 ≤ nfault_13.toInt ∧ nfault_13.toInt ≤ 4; omega) (by show 0 ≤ (mi 9).toInt ∧ (mi 9).toInt ≤ 10; omega)) (gdV q_936 q_937 q_938 q_158 q_939) hdV_X7_read ⟨rfl, rfl⟩ ⟨(Nat.le_of_ble_eq_true rfl), (Nat.le_of_ble_eq_true rfl)⟩ ⟨(Nat.le_of_ble_eq_true rfl), (Nat.le_of_ble_eq_true rfl)⟩ xT8_b (xT8_at hX hw15.2.2.1 (va_free hw15.2.1 hw15.2.2.1 hw15.2.2.2 [10, 11, 12, 13, 8, 9] rfl)) 10 7 rfl rfl rfl [10, 11, 12, 13, 8, 9] rfl (by decide) rfl hl4.1 rfl (Nat.le_of_ble_eq_true rfl) dX11_text_109) (fun u_22 H1 locs hp hw24 => ?_)
      obtain ⟨ntat_25, ntplace_26, ntkind_27, ntvalue_28, ntfault_29, ntfaultPlace_30, nsize_31, nopen_32, gstops_33, gstarts_34, gtimes_35⟩ := u_22
      generalize H1 = H at hw24 ⊢
      have hw36 : WD D A s.heap (WZ_Ltext4P cI cJ ad mv mr (upd (upd (upd (upd (upd (upd (upd (upd (upd mi 27 nwords_12) 28 ntat_25) 29 ntkind_27) 30 ntvalue_28) 31 ntplace_26) 32 ntfault_29) 33 ntfaultPlace_30) 36 nsize_31) 39 nopen_32) (va_up (va_up (va_up mf 35 gstops_33) 37 gstarts_34) 38 gtimes_35) mg) H locs := hw24
      obtain ⟨hp_37, hp_38, hp_39, hp_40, hp_41, hp_42⟩ := hp
      have hp_37 : 0 ≤ ntat_25.toInt := hp_37
      have hp_38 : ntat_25.toInt ≤ (mi 26).toInt := hp_38
      have hp_39 : 0 ≤ ntfault_29.toInt := hp_39
      have hp_40 : ntfault_29.toInt ≤ 4 := hp_40
      have hp_41 : 0 ≤ nsize_31.toInt := hp_41
      have hp_42 : nsize_31.toInt ≤ 200 + 157857660 * ntfault_29.toInt := hp_42
      refine lv_goto (pc := 112) (tgt := 115) E.1 E.2.1 dX11_text_112 (by decide) ?_
      refine lv_aload_n (pc := 115) E.1 E.2.1 dX11_text_115 rfl (lv_at hl4 1 rfl) ?_
      refine x_get (pc := 116) (T := TX11) (N := 13) (ci := 11) (v := .ref (mr 24)) E hw36 inX11 0 2 q_608 rfl rfl (by decide) rfl rfl dX11_text_116 ?_
      refine lv_iconst (pc := 119) (v := 0) E.1 E.2.1 dX11_text_119 (by decide +kernel) ?_
      refine x_put (pc := 120) (T := TX8) (N := 9) (ci := 8) (ws' := (WZ_Ltext4P cI cJ ad mv mr (upd (upd (upd (upd (upd (upd (upd (upd (upd (upd mi 26 0) 27 nwords_12) 28 ntat_25) 29 ntkind_27) 30 ntvalue_28) 31 ntplace_26) 32 ntfault_29) 33 ntfaultPlace_30) 36 nsize_31) 39 nopen_32) (va_up (va_up (va_up mf 35 gstops_33) 37 gstarts_34) 38 gtimes_35) mg)) E hw36 inX8 tyX8_ok nmX8 8 1 q_539 rfl rfl (by decide) rfl rfl rfl rfl (Nat.le_of_ble_eq_true rfl) rfl dX11_text_120 (fun H locs hw43 => ?_)
      refine lv_aload_n (pc := 123) E.1 E.2.1 dX11_text_123 rfl (lv_at hl4 1 rfl) ?_
      refine x_get (pc := 124) (T := TX11) (N := 13) (ci := 11) (v := .ref (mr 24)) E hw43 inX11 0 2 q_608 rfl rfl (by decide) rfl rfl dX11_text_124 ?_
      refine x_get (pc := 127) (T := TX8) (N := 9) (ci := 8) (v := .int ntfault_29) E hw43 inX8 8 7 q_555 rfl rfl (by decide) rfl rfl dX11_text_127 ?_
      refine lv_if_ne (pc := 130) (tgt := 141) E.1 E.2.1 dX11_text_130 (by decide) (fun c_44 => ?_) (fun c_44 => ?_)
      · skip
        have hc_44 := neE (a := ntfault_29.toInt) (b := 0) rfl (by decide +kernel) c_44
        refine lv_iconst (pc := 141) (v := (-1)) E.1 E.2.1 dX11_text_141 (by decide +kernel) ?_
        exact em_i (w1 := (fun (u : (Nat → Int32) × (Nat → Nat → Int32) × (Nat → Nat → Int64)) => (WZ_Ltext4P cI cJ ad mv mr u.1 u.2.1 u.2.2))) E hr hlk ((upd (upd (upd (upd (upd (upd (upd (upd (upd (upd mi 26 0) 27 nwords_12) 28 ntat_25) 29 ntkind_27) 30 ntvalue_28) 31 ntplace_26) 32 ntfault_29) 33 ntfaultPlace_30) 36 nsize_31) 39 nopen_32), (va_up (va_up (va_up mf 35 gstops_33) 37 gstarts_34) 38 gtimes_35), mg) hw43 ⟨(by show 0 ≤ (mi 1).toInt; have k_0 : (0 : Int32).toInt = 0 := (by decide +kernel); have k_1 : ((-1) : Int32).toInt = -1 := (by decide +kernel); omega), (by show (mi 1).toInt ≤ 5; have k_0 : (0 : Int32).toInt = 0 := (by decide +kernel); have k_1 : ((-1) : Int32).toInt = -1 := (by decide +kernel); omega), (by show 0 ≤ (mi 2).toInt; have k_0 : (0 : Int32).toInt = 0 := (by decide +kernel); have k_1 : ((-1) : Int32).toInt = -1 := (by decide +kernel); omega), (by show (mi 2).toInt ≤ 6; have k_0 : (0 : Int32).toInt = 0 := (by decide +kernel); have k_1 : ((-1) : Int32).toInt = -1 := (by decide +kernel); omega), (by show 0 ≤ (mi 9).toInt; have k_0 : (0 : Int32).toInt = 0 := (by decide +kernel); have k_1 : ((-1) : Int32).toInt = -1 := (by decide +kernel); omega), (by show (mi 9).toInt ≤ 10; have k_0 : (0 : Int32).toInt = 0 := (by decide +kernel); have k_1 : ((-1) : Int32).toInt = -1 := (by decide +kernel); omega), (by show 0 ≤ (mi 16).toInt; have k_0 : (0 : Int32).toInt = 0 := (by decide +kernel); have k_1 : ((-1) : Int32).toInt = -1 := (by decide +kernel); omega), (by show (mi 16).toInt ≤ 200; have k_0 : (0 : Int32).toInt = 0 := (by decide +kernel); have k_1 : ((-1) : Int32).toInt = -1 := (by decide +kernel); omega), (by show 0 ≤ (mi 20).toInt; have k_0 : (0 : Int32).toInt = 0 := (by decide +kernel); have k_1 : ((-1) : Int32).toInt = -1 := (by decide +kernel); omega), (by show (mi 20).toInt ≤ 200; have k_0 : (0 : Int32).toInt = 0 := (by decide +kernel); have k_1 : ((-1) : Int32).toInt = -1 := (by decide +kernel); omega), (by show 0 ≤ (0 : Int32).toInt; have k_0 : (0 : Int32).toInt = 0 := (by decide +kernel); have k_1 : ((-1) : Int32).toInt = -1 := (by decide +kernel); omega), (by show (0 : Int32).toInt ≤ 400; have k_0 : (0 : Int32).toInt = 0 := (by decide +kernel); have k_1 : ((-1) : Int32).toInt = -1 := (by decide +kernel); omega), (by show 0 ≤ nwords_12.toInt; have k_0 : (0 : Int32).toInt = 0 := (by decide +kernel); have k_1 : ((-1) : Int32).toInt = -1 := (by decide +kernel); omega), (by show nwords_12.toInt ≤ 6; have k_0 : (0 : Int32).toInt = 0 := (by decide +kernel); have k_1 : ((-1) : Int32).toInt = -1 := (by decide +kernel); omega), (by show 0 ≤ ntfault_29.toInt; have k_0 : (0 : Int32).toInt = 0 := (by decide +kernel); have k_1 : ((-1) : Int32).toInt = -1 := (by decide +kernel); omega), (by show ntfault_29.toInt ≤ 4; have k_0 : (0 : Int32).toInt = 0 := (by decide +kernel); have k_1 : ((-1) : Int32).toInt = -1 := (by decide +kernel); omega), (by show (0 : Int32).toInt = 0; have k_0 : (0 : Int32).toInt = 0 := (by decide +kernel); have k_1 : ((-1) : Int32).toInt = -1 := (by decide +kernel); omega)⟩ (Nat.le_of_ble_eq_true rfl) (Nat.le_of_ble_eq_true rfl) dX11_text_142
      · skip
        have hc_44 := eqE (a := ntfault_29.toInt) (b := 0) rfl (by decide +kernel) c_44
        refine lv_aload_n (pc := 133) E.1 E.2.1 dX11_text_133 rfl (lv_at hl4 1 rfl) ?_
        refine lv_iload_n (pc := 134) E.1 E.2.1 dX11_text_134 rfl (lv_at hl4 2 rfl) ?_
        refine cq_i (pc := 135) (ws' := (fun (u : (Nat → Int32) × (Nat → Nat → Int32) × (Nat → Nat → Int64)) => (WZ_Ltext4P cI cJ ad mv mr (upd (upd (upd (upd (upd (upd (upd (upd (upd (upd (upd (upd (upd (upd (upd (upd (upd (upd (upd (upd (upd (upd (upd (upd (upd (upd (upd (upd (upd mi 1 (u.1 1)) 2 (u.1 2)) 4 (u.1 4)) 5 (u.1 5)) 6 (u.1 6)) 7 (u.1 7)) 9 (u.1 9)) 11 (u.1 11)) 12 (u.1 12)) 13 (u.1 13)) 14 (u.1 14)) 15 (u.1 15)) 16 (u.1 16)) 17 (u.1 17)) 20 (u.1 20)) 23 (u.1 23)) 26 (u.1 26)) 27 (u.1 27)) 28 (u.1 28)) 29 (u.1 29)) 30 (u.1 30)) 31 (u.1 31)) 32 (u.1 32)) 33 (u.1 33)) 36 (u.1 36)) 39 (u.1 39)) 41 (u.1 41)) 42 (u.1 42)) 44 (u.1 44)) (va_up (va_up (va_up (va_up (va_up (va_up (va_up mf 19 (u.2.1 19)) 21 (u.2.1 21)) 22 (u.2.1 22)) 25 (u.2.1 25)) 35 (u.2.1 35)) 37 (u.2.1 37)) 38 (u.2.1 38)) (va_up mg 43 (u.2.2 43))))) hw43 [0, 1, 2, 3, 4, 5, 6, 7, 8, 9, 10, 11, 12, 13, 14] [] [0, 1, 2, 3, 4, 5, 6, 7, 8, 9, 10, 11, 12, 13, 14] rfl rfl (by decide) (by decide) (fun _ => rfl) (by decide) (rn_V (As := [.int z_k]) (rest := []) E hw43 (t_take4P l D cI cJ _ (ixf [0, 1, 2, 3, 4, 5, 6, 7, 8, 9, 10, 11, 12, 13, 14, 15, 16, 17, 18, 19, 20, 21, 22, 23, 24, 25, 26, 27, 28, 29, 30, 31, 32, 33, 34, 35, 36, 37, 38, 39, 40, 41, 42, 43, 44] mr) (ixf [0, 1, 2, 3, 4, 5, 6, 7, 8, 9, 10, 11, 12, 13, 14, 15, 16, 17, 18, 19, 20, 21, 22, 23, 24, 25, 26, 27, 28, 29, 30, 31, 32, 33, 34, 35, 36, 37, 38, 39, 40, 41, 42, 43, 44] (upd (upd (upd (upd (upd (upd (upd (upd (upd (upd mi 26 0) 27 nwords_12) 28 ntat_25) 29 ntkind_27) 30 ntvalue_28) 31 ntplace_26) 32 ntfault_29) 33 ntfaultPlace_30) 36 nsize_31) 39 nopen_32)) (ixf [0, 1, 2, 3, 4, 5, 6, 7, 8, 9, 10, 11, 12, 13, 14, 15, 16, 17, 18, 19, 20, 21, 22, 23, 24, 25, 26, 27, 28, 29, 30, 31, 32, 33, 34, 35, 36, 37, 38, 39, 40, 41, 42, 43, 44] (va_up (va_up (va_up mf 35 gstops_33) 37 gstarts_34) 38 gtimes_35)) (ixf [0, 1, 2, 3, 4, 5, 6, 7, 8, 9, 10, 11, 12, 13, 14, 15, 16, 17, 18, 19, 20, 21, 22, 23, 24, 25, 26, 27, 28, 29, 30, 31, 32, 33, 34, 35, 36, 37, 38, 39, 40, 41, 42, 43, 44] mg) z_k ad (vl [mv 0, mv 1, mv 2, mv 3, mv 4, mv 5, mv 6, mv 7, mv 8, mv 9, mv 10, mv 11, mv 12, mv 13, mv 14, mv 15, mv 16, mv 17, mv 18, mv 19, mv 20, mv 21, mv 22, mv 23, mv 24, mv 25, mv 26, mv 27, mv 28, mv 29, mv 30, mv 31, mv 32, mv 33, mv 34, mv 35]) (by show 0 ≤ (mi 1).toInt ∧ (mi 1).toInt ≤ 5; omega) (by show 0 ≤ (mi 2).toInt ∧ (mi 2).toInt ≤ 6; omega) (by show 0 ≤ (mi 9).toInt ∧ (mi 9).toInt ≤ 10; omega) (by show 0 ≤ (mi 16).toInt ∧ (mi 16).toInt ≤ 200; omega) (by show 0 ≤ (mi 20).toInt ∧ (mi 20).toInt ≤ 200; omega) (by show 0 ≤ (0 : Int32).toInt ∧ (0 : Int32).toInt ≤ 400; have k_0 : (0 : Int32).toInt = 0 := (by decide +kernel); omega) (by show 0 ≤ nwords_12.toInt ∧ nwords_12.toInt ≤ 6; omega) (by show 0 ≤ ntfault_29.toInt ∧ ntfault_29.toInt ≤ 4; omega) (by show z_k.toInt = 4; omega) (by show 0 ≤ nsize_31.toInt ∧ nsize_31.toInt ≤ 200; omega)) (gdV q_957 q_959 q_18 q_151 q_960) hdV_X11_takeDraft ⟨rfl, rfl⟩ ⟨(Nat.le_of_ble_eq_true rfl), (Nat.le_of_ble_eq_true rfl)⟩ ⟨(Nat.le_of_ble_eq_true rfl), (Nat.le_of_ble_eq_true rfl)⟩ xT_b xT_at 0 11 rfl rfl rfl [0, 1, 2, 3, 4, 5, 6, 7, 8, 9, 10, 11, 12, 13, 14] rfl (by decide) rfl hl4.1 rfl (Nat.le_of_ble_eq_true rfl) dX11_text_135) (fun r_46 u_45 H1 locs hp hw47 => ?_)
        obtain ⟨Mi_48, Mf_49, Mg_50⟩ := u_45
        generalize H1 = H at hw47 ⊢
        have hw51 : WD D A s.heap (WZ_Ltext4P cI cJ ad mv mr (upd (upd (upd (upd (upd (upd (upd (upd (upd (upd (upd (upd (upd (upd (upd (upd (upd (upd (upd (upd (upd (upd (upd (upd (upd (upd (upd (upd (upd mi 1 (Mi_48 1)) 2 (Mi_48 2)) 4 (Mi_48 4)) 5 (Mi_48 5)) 6 (Mi_48 6)) 7 (Mi_48 7)) 9 (Mi_48 9)) 11 (Mi_48 11)) 12 (Mi_48 12)) 13 (Mi_48 13)) 14 (Mi_48 14)) 15 (Mi_48 15)) 16 (Mi_48 16)) 17 (Mi_48 17)) 20 (Mi_48 20)) 23 (Mi_48 23)) 26 (Mi_48 26)) 27 (Mi_48 27)) 28 (Mi_48 28)) 29 (Mi_48 29)) 30 (Mi_48 30)) 31 (Mi_48 31)) 32 (Mi_48 32)) 33 (Mi_48 33)) 36 (Mi_48 36)) 39 (Mi_48 39)) 41 (Mi_48 41)) 42 (Mi_48 42)) 44 (Mi_48 44)) (va_up (va_up (va_up (va_up (va_up (va_up (va_up mf 19 (Mf_49 19)) 21 (Mf_49 21)) 22 (Mf_49 22)) 25 (Mf_49 25)) 35 (Mf_49 35)) 37 (Mf_49 37)) 38 (Mf_49 38)) (va_up mg 43 (Mg_50 43))) H locs := hw47
        obtain ⟨hp_52, hp_53, hp_54, hp_55, hp_56, hp_57, hp_58, hp_59, hp_60, hp_61, hp_62, hp_63, hp_64, hp_65, hp_66, hp_67, hp_68⟩ := hp
        have hp_52 : 0 ≤ (Mi_48 1).toInt := hp_52
        have hp_53 : (Mi_48 1).toInt ≤ 5 := hp_53
        have hp_54 : 0 ≤ (Mi_48 2).toInt := hp_54
        have hp_55 : (Mi_48 2).toInt ≤ 6 := hp_55
        have hp_56 : 0 ≤ (Mi_48 9).toInt := hp_56
        have hp_57 : (Mi_48 9).toInt ≤ 10 := hp_57
        have hp_58 : 0 ≤ (Mi_48 16).toInt := hp_58
        have hp_59 : (Mi_48 16).toInt ≤ 200 := hp_59
        have hp_60 : 0 ≤ (Mi_48 20).toInt := hp_60
        have hp_61 : (Mi_48 20).toInt ≤ 200 := hp_61
        have hp_62 : 0 ≤ (Mi_48 26).toInt := hp_62
        have hp_63 : (Mi_48 26).toInt ≤ 400 := hp_63
        have hp_64 : 0 ≤ (Mi_48 27).toInt := hp_64
        have hp_65 : (Mi_48 27).toInt ≤ 6 := hp_65
        have hp_66 : 0 ≤ (Mi_48 32).toInt := hp_66
        have hp_67 : (Mi_48 32).toInt ≤ 4 := hp_67
        have hp_68 : (Mi_48 26).toInt = (0 : Int32).toInt := hp_68
        rw [show (0 : Int32).toInt = 0 from by decide +kernel] at hp_68
        refine lv_goto (pc := 138) (tgt := 142) E.1 E.2.1 dX11_text_138 (by decide) ?_
        exact em_i (w1 := (fun (u : (Nat → Int32) × (Nat → Nat → Int32) × (Nat → Nat → Int64)) => (WZ_Ltext4P cI cJ ad mv mr u.1 u.2.1 u.2.2))) E hr hlk ((upd (upd (upd (upd (upd (upd (upd (upd (upd (upd (upd (upd (upd (upd (upd (upd (upd (upd (upd (upd (upd (upd (upd (upd (upd (upd (upd (upd (upd mi 1 (Mi_48 1)) 2 (Mi_48 2)) 4 (Mi_48 4)) 5 (Mi_48 5)) 6 (Mi_48 6)) 7 (Mi_48 7)) 9 (Mi_48 9)) 11 (Mi_48 11)) 12 (Mi_48 12)) 13 (Mi_48 13)) 14 (Mi_48 14)) 15 (Mi_48 15)) 16 (Mi_48 16)) 17 (Mi_48 17)) 20 (Mi_48 20)) 23 (Mi_48 23)) 26 (Mi_48 26)) 27 (Mi_48 27)) 28 (Mi_48 28)) 29 (Mi_48 29)) 30 (Mi_48 30)) 31 (Mi_48 31)) 32 (Mi_48 32)) 33 (Mi_48 33)) 36 (Mi_48 36)) 39 (Mi_48 39)) 41 (Mi_48 41)) 42 (Mi_48 42)) 44 (Mi_48 44)), (va_up (va_up (va_up (va_up (va_up (va_up (va_up mf 19 (Mf_49 19)) 21 (Mf_49 21)) 22 (Mf_49 22)) 25 (Mf_49 25)) 35 (Mf_49 35)) 37 (Mf_49 37)) 38 (Mf_49 38)), (va_up mg 43 (Mg_50 43))) hw51 ⟨(by show 0 ≤ (Mi_48 1).toInt; omega), (by show (Mi_48 1).toInt ≤ 5; omega), (by show 0 ≤ (Mi_48 2).toInt; omega), (by show (Mi_48 2).toInt ≤ 6; omega), (by show 0 ≤ (Mi_48 9).toInt; omega), (by show (Mi_48 9).toInt ≤ 10; omega), (by show 0 ≤ (Mi_48 16).toInt; omega), (by show (Mi_48 16).toInt ≤ 200; omega), (by show 0 ≤ (Mi_48 20).toInt; omega), (by show (Mi_48 20).toInt ≤ 200; omega), (by show 0 ≤ (Mi_48 26).toInt; omega), (by show (Mi_48 26).toInt ≤ 400; omega), (by show 0 ≤ (Mi_48 27).toInt; omega), (by show (Mi_48 27).toInt ≤ 6; omega), (by show 0 ≤ (Mi_48 32).toInt; omega), (by show (Mi_48 32).toInt ≤ 4; omega), (by show (Mi_48 26).toInt = 0; omega)⟩ (Nat.le_of_ble_eq_true rfl) (Nat.le_of_ble_eq_true rfl) dX11_text_142
set_option maxHeartbeats 4000000 in
set_option maxRecDepth 100000 in
theorem t_take0 (l : Launch) (D : va_G) (cI cJ : ClassId) (sz : Nat) (mr : Nat → Nat) (mi : Nat → Int32) (mf : Nat → Nat → Int32) (mg : Nat → Nat → Int64) (z_k : Int32) (ad : Nat → Nat) (mv : Nat → Value) (h0 : 0 ≤ (mi 1).toInt ∧ (mi 1).toInt ≤ 5) (h1 : 0 ≤ (mi 2).toInt ∧ (mi 2).toInt ≤ 6) (h2 : 0 ≤ (mi 9).toInt ∧ (mi 9).toInt ≤ 10) (h3 : 0 ≤ (mi 22).toInt ∧ (mi 22).toInt ≤ 400) (h4 : 0 ≤ (mi 23).toInt ∧ (mi 23).toInt ≤ 6) (h5 : 0 ≤ (mi 28).toInt ∧ (mi 28).toInt ≤ 4) (h6 : z_k.toInt = 0) (a_t_marks : m4 (mf 13)) (a_dl_marks : m4 (mf 33)) : Met l yX11_takeDraft (Cond.code yX11_takeDraft cX11_takeDraft 2 (some .int) :: GW) ({ frames := 3, cells := 0, slots := 0, locals := 82 } : Room) (va_Pc [.ref (mr 0), .int z_k] (PW D cI cJ sz (WZ_Mtext0 cI cJ ad mv mr mi mf mg) xT)) (va_Qi (fun (r : Int32) (u : (Nat → Int32) × (Nat → Nat → Int32) × (Nat → Nat → Int64)) => (0 ≤ (u.1 1).toInt) ∧ ((u.1 1).toInt ≤ 5) ∧ (0 ≤ (u.1 2).toInt) ∧ ((u.1 2).toInt ≤ 6) ∧ (0 ≤ (u.1 9).toInt) ∧ ((u.1 9).toInt ≤ 10) ∧ (0 ≤ (u.1 22).toInt) ∧ ((u.1 22).toInt ≤ 400) ∧ (0 ≤ (u.1 23).toInt) ∧ ((u.1 23).toInt ≤ 6) ∧ (0 ≤ (u.1 28).toInt) ∧ ((u.1 28).toInt ≤ 4) ∧ ((u.1 22).toInt = (mi 22).toInt) ∧ (m4 (u.2.1 13)) ∧ (m4 (u.2.1 33))) (fun u => QW D cI cJ (va_A (WZ_Mtext0 cI cJ ad mv mr mi mf mg) sz) ((fun (u : (Nat → Int32) × (Nat → Nat → Int32) × (Nat → Nat → Int64)) => (WZ_Mtext0 cI cJ ad mv mr u.1 u.2.1 u.2.2)) u)) (va_A (WZ_Mtext0 cI cJ ad mv mr mi mf mg) sz)) 0 0 (va_A (WZ_Mtext0 cI cJ ad mv mr mi mf mg) sz) := by
  refine mk_met (y := yX11_takeDraft) (bytes := cX11_takeDraft) (maxL := 2) (avs := [.ref (mr 0), .int z_k]) (WS := (WZ_Mtext0 cI cJ ad mv mr mi mf mg)) (Qf := fun A => va_Qi (fun (r : Int32) (u : (Nat → Int32) × (Nat → Nat → Int32) × (Nat → Nat → Int64)) => (0 ≤ (u.1 1).toInt) ∧ ((u.1 1).toInt ≤ 5) ∧ (0 ≤ (u.1 2).toInt) ∧ ((u.1 2).toInt ≤ 6) ∧ (0 ≤ (u.1 9).toInt) ∧ ((u.1 9).toInt ≤ 10) ∧ (0 ≤ (u.1 22).toInt) ∧ ((u.1 22).toInt ≤ 400) ∧ (0 ≤ (u.1 23).toInt) ∧ ((u.1 23).toInt ≤ 6) ∧ (0 ≤ (u.1 28).toInt) ∧ ((u.1 28).toInt ≤ 4) ∧ ((u.1 22).toInt = (mi 22).toInt) ∧ (m4 (u.2.1 13)) ∧ (m4 (u.2.1 33))) (fun u => QW D cI cJ A ((fun (u : (Nat → Int32) × (Nat → Nat → Int32) × (Nat → Nat → Int64)) => (WZ_Mtext0 cI cJ ad mv mr u.1 u.2.1 u.2.2)) u)) A) (by decide) (Nat.le_of_ble_eq_true rfl) ?_
  intro p e s m below meth c A ls E hr hlk hnm hX hw1 hl2
  have hl3 : lv_has ls 2 [(0, .ref (mr 0)), (1, .int z_k)] := hl2
  refine lv_iload_n (pc := 0) E.1 E.2.1 dX11_takeDraft_0 rfl (lv_at hl3 1 rfl) ?_
  rcases swt (x := z_k) 0 4 with hsw_4 | ⟨hsw_4k, hsw_41, hsw_42, hsw_4⟩
  · skip
    exfalso; omega
  · skip
    rcases (show hsw_4k = 0 ∨ hsw_4k = 1 ∨ hsw_4k = 2 ∨ hsw_4k = 3 ∨ hsw_4k = 4 from by omega) with rfl | rfl | rfl | rfl | rfl
    · skip
      have hsw_4v : z_k.toInt = 0 := hsw_4
      have hsw_4e : z_k = 0 := Int32.toInt_inj.mp (by rw [hsw_4]; decide +kernel)
      refine lv_tableIn (pc := 1) (off := 35) (tgt := 36) E.1 E.2.1 dX11_takeDraft_1 (by rw [hsw_4e]; decide +kernel) (by rw [hsw_4e]; decide +kernel) (by rw [hsw_4e]; decide +kernel) (by decide) ?_
      refine lv_aload_n (pc := 36) E.1 E.2.1 dX11_takeDraft_36 rfl (lv_at hl3 0 rfl) ?_
      refine x_get (pc := 37) (T := TX11) (N := 13) (ci := 11) (v := .ref (mr 3)) E hw1 inX11 0 0 q_606 rfl rfl (by decide) rfl rfl dX11_takeDraft_37 ?_
      refine x_get (pc := 40) (T := TX10) (N := 17) (ci := 10) (v := .ref (mr 10)) E hw1 inX10 1 4 q_471 rfl rfl (by decide) rfl rfl dX11_takeDraft_40 ?_
      refine lv_aload_n (pc := 43) E.1 E.2.1 dX11_takeDraft_43 rfl (lv_at hl3 0 rfl) ?_
      refine x_get (pc := 44) (T := TX11) (N := 13) (ci := 11) (v := .ref (mr 30)) E hw1 inX11 0 3 q_609 rfl rfl (by decide) rfl rfl dX11_takeDraft_44 ?_
      refine cq_v (pc := 47) (ws' := (fun (u : (Nat → Int32) × (Nat → Int32) × Int32) => (WZ_Mtext0 cI cJ ad mv mr (upd mi 14 u.2.2) (va_up (va_up mf 11 u.1) 13 u.2.1) mg))) hw1 [3, 4, 5, 6, 7, 10, 11, 12, 13, 14] [0, 1, 2, 8, 9] [0, 1, 2, 5, 6, 7, 8, 9, 3, 4, 10, 11, 12, 13, 14] rfl rfl (by decide) (by decide) (fun _ => rfl) (by decide) (rn_V (As := [.ref (mr 30)]) (rest := []) E hw1 (t_lawTake l D cI cJ _ (ixf [10, 11, 12, 13, 14, 15, 16, 17, 18, 19, 30, 31, 32, 33, 34, 35, 36, 37, 38, 39] mr) (ixf [10, 11, 12, 13, 14, 15, 16, 17, 18, 19, 30, 31, 32, 33, 34, 35, 36, 37, 38, 39] mi) (ixf [10, 11, 12, 13, 14, 15, 16, 17, 18, 19, 30, 31, 32, 33, 34, 35, 36, 37, 38, 39] mf) (ixf [10, 11, 12, 13, 14, 15, 16, 17, 18, 19, 30, 31, 32, 33, 34, 35, 36, 37, 38, 39] mg) a_dl_marks) (gdV q_961 q_962 q_963 q_157 q_964) hdV_X2_take ⟨rfl, rfl⟩ ⟨(Nat.le_of_ble_eq_true rfl), (Nat.le_of_ble_eq_true rfl)⟩ ⟨(Nat.le_of_ble_eq_true rfl), (Nat.le_of_ble_eq_true rfl)⟩ xT_b xT_at 3 2 rfl rfl rfl [3, 4, 5, 6, 7, 10, 11, 12, 13, 14] rfl (by decide) rfl hl3.1 rfl (Nat.le_of_ble_eq_true rfl) dX11_takeDraft_47) (fun u_5 H1 locs hp hw7 => ?_)
      obtain ⟨gcode_8, gmarks_9, nlines_10⟩ := u_5
      generalize H1 = H at hw7 ⊢
      have hw11 : WD D A s.heap (WZ_Mtext0 cI cJ ad mv mr (upd mi 14 nlines_10) (va_up (va_up mf 11 gcode_8) 13 gmarks_9) mg) H locs := hw7
      obtain ⟨hp_12, hp_13⟩ := hp
      have hp_12 : nlines_10.toInt = (mi 34).toInt := hp_12
      refine lv_aload_n (pc := 50) E.1 E.2.1 dX11_takeDraft_50 rfl (lv_at hl3 0 rfl) ?_
      refine x_get (pc := 51) (T := TX11) (N := 13) (ci := 11) (v := .ref (mr 30)) E hw11 inX11 0 3 q_609 rfl rfl (by decide) rfl rfl dX11_takeDraft_51 ?_
      refine x_get (pc := 54) (T := TX2) (N := 9) (ci := 2) (v := .int (mi 34)) E hw11 inX2 10 3 q_388 rfl rfl (by decide) rfl rfl dX11_takeDraft_54 ?_
      exact em_i (w1 := (fun (u : (Nat → Int32) × (Nat → Nat → Int32) × (Nat → Nat → Int64)) => (WZ_Mtext0 cI cJ ad mv mr u.1 u.2.1 u.2.2))) E hr hlk ((upd mi 14 nlines_10), (va_up (va_up mf 11 gcode_8) 13 gmarks_9), mg) hw11 ⟨(by show 0 ≤ (mi 1).toInt; omega), (by show (mi 1).toInt ≤ 5; omega), (by show 0 ≤ (mi 2).toInt; omega), (by show (mi 2).toInt ≤ 6; omega), (by show 0 ≤ (mi 9).toInt; omega), (by show (mi 9).toInt ≤ 10; omega), (by show 0 ≤ (mi 22).toInt; omega), (by show (mi 22).toInt ≤ 400; omega), (by show 0 ≤ (mi 23).toInt; omega), (by show (mi 23).toInt ≤ 6; omega), (by show 0 ≤ (mi 28).toInt; omega), (by show (mi 28).toInt ≤ 4; omega), (by show (mi 22).toInt = (mi 22).toInt; omega), hp_13, a_dl_marks⟩ (Nat.le_of_ble_eq_true rfl) (Nat.le_of_ble_eq_true rfl) dX11_takeDraft_57
    · skip
      have hsw_4v : z_k.toInt = 1 := hsw_4
      have hsw_4e : z_k = 1 := Int32.toInt_inj.mp (by rw [hsw_4]; decide +kernel)
      refine lv_tableIn (pc := 1) (off := 57) (tgt := 58) E.1 E.2.1 dX11_takeDraft_1 (by rw [hsw_4e]; decide +kernel) (by rw [hsw_4e]; decide +kernel) (by rw [hsw_4e]; decide +kernel) (by decide) ?_
      exfalso; omega
    · skip
      have hsw_4v : z_k.toInt = 2 := hsw_4
      have hsw_4e : z_k = 2 := Int32.toInt_inj.mp (by rw [hsw_4]; decide +kernel)
      refine lv_tableIn (pc := 1) (off := 79) (tgt := 80) E.1 E.2.1 dX11_takeDraft_1 (by rw [hsw_4e]; decide +kernel) (by rw [hsw_4e]; decide +kernel) (by rw [hsw_4e]; decide +kernel) (by decide) ?_
      exfalso; omega
    · skip
      have hsw_4v : z_k.toInt = 3 := hsw_4
      have hsw_4e : z_k = 3 := Int32.toInt_inj.mp (by rw [hsw_4]; decide +kernel)
      refine lv_tableIn (pc := 1) (off := 105) (tgt := 106) E.1 E.2.1 dX11_takeDraft_1 (by rw [hsw_4e]; decide +kernel) (by rw [hsw_4e]; decide +kernel) (by rw [hsw_4e]; decide +kernel) (by decide) ?_
      exfalso; omega
    · skip
      have hsw_4v : z_k.toInt = 4 := hsw_4
      have hsw_4e : z_k = 4 := Int32.toInt_inj.mp (by rw [hsw_4]; decide +kernel)
      refine lv_tableIn (pc := 1) (off := 141) (tgt := 142) E.1 E.2.1 dX11_takeDraft_1 (by rw [hsw_4e]; decide +kernel) (by rw [hsw_4e]; decide +kernel) (by rw [hsw_4e]; decide +kernel) (by decide) ?_
      exfalso; omega
set_option maxHeartbeats 4000000 in
set_option maxRecDepth 100000 in
theorem t_text0 (l : Launch) (D : va_G) (cI cJ : ClassId) (sz : Nat) (mr : Nat → Nat) (mi : Nat → Int32) (mf : Nat → Nat → Int32) (mg : Nat → Nat → Int64) (z_k : Int32) (ad av : Nat → Nat) (tf : Value) (mv : Nat → Value) (h0 : 0 ≤ (mi 1).toInt ∧ (mi 1).toInt ≤ 5) (h1 : 0 ≤ (mi 2).toInt ∧ (mi 2).toInt ≤ 6) (h2 : 0 ≤ (mi 9).toInt ∧ (mi 9).toInt ≤ 10) (h3 : 0 ≤ (mi 22).toInt ∧ (mi 22).toInt ≤ 400) (h4 : 0 ≤ (mi 23).toInt ∧ (mi 23).toInt ≤ 6) (h5 : 0 ≤ (mi 28).toInt ∧ (mi 28).toInt ≤ 4) (h6 : z_k.toInt = 0) (a_t_marks : m4 (mf 13)) (a_dl_marks : m4 (mf 33)) : Met l yX11_text (Cond.code yX11_text cX11_text 3 (some .int) :: GW) ({ frames := 11, cells := 0, slots := 0, locals := 263 } : Room) (va_Pc [.ref (mr 0), .int z_k] (PW D cI cJ sz (WZ_Mtext0 cI cJ ad mv mr mi mf mg) (xT8 ad av tf (va_A (WZ_Mtext0 cI cJ ad mv mr mi mf mg) sz)))) (va_Qi (fun (r : Int32) (u : (Nat → Int32) × (Nat → Nat → Int32) × (Nat → Nat → Int64)) => (0 ≤ (u.1 1).toInt) ∧ ((u.1 1).toInt ≤ 5) ∧ (0 ≤ (u.1 2).toInt) ∧ ((u.1 2).toInt ≤ 6) ∧ (0 ≤ (u.1 9).toInt) ∧ ((u.1 9).toInt ≤ 10) ∧ (0 ≤ (u.1 22).toInt) ∧ ((u.1 22).toInt ≤ 400) ∧ (0 ≤ (u.1 23).toInt) ∧ ((u.1 23).toInt ≤ 6) ∧ (0 ≤ (u.1 28).toInt) ∧ ((u.1 28).toInt ≤ 4) ∧ ((u.1 22).toInt = 0) ∧ (m4 (u.2.1 13)) ∧ (m4 (u.2.1 33))) (fun u => QW D cI cJ (va_A (WZ_Mtext0 cI cJ ad mv mr mi mf mg) sz) ((fun (u : (Nat → Int32) × (Nat → Nat → Int32) × (Nat → Nat → Int64)) => (WZ_Mtext0 cI cJ ad mv mr u.1 u.2.1 u.2.2)) u)) (va_A (WZ_Mtext0 cI cJ ad mv mr mi mf mg) sz)) 0 0 (va_A (WZ_Mtext0 cI cJ ad mv mr mi mf mg) sz) := by
  refine mk_metA (X := fun A => xT8 ad av tf A) (y := yX11_text) (bytes := cX11_text) (maxL := 3) (avs := [.ref (mr 0), .int z_k]) (WS := (WZ_Mtext0 cI cJ ad mv mr mi mf mg)) (Qf := fun A => va_Qi (fun (r : Int32) (u : (Nat → Int32) × (Nat → Nat → Int32) × (Nat → Nat → Int64)) => (0 ≤ (u.1 1).toInt) ∧ ((u.1 1).toInt ≤ 5) ∧ (0 ≤ (u.1 2).toInt) ∧ ((u.1 2).toInt ≤ 6) ∧ (0 ≤ (u.1 9).toInt) ∧ ((u.1 9).toInt ≤ 10) ∧ (0 ≤ (u.1 22).toInt) ∧ ((u.1 22).toInt ≤ 400) ∧ (0 ≤ (u.1 23).toInt) ∧ ((u.1 23).toInt ≤ 6) ∧ (0 ≤ (u.1 28).toInt) ∧ ((u.1 28).toInt ≤ 4) ∧ ((u.1 22).toInt = 0) ∧ (m4 (u.2.1 13)) ∧ (m4 (u.2.1 33))) (fun u => QW D cI cJ A ((fun (u : (Nat → Int32) × (Nat → Nat → Int32) × (Nat → Nat → Int64)) => (WZ_Mtext0 cI cJ ad mv mr u.1 u.2.1 u.2.2)) u)) A) (by decide) (Nat.le_of_ble_eq_true rfl) ?_
  intro p e s m below meth c A ls E hr hlk hnm hX hw1 hl2
  have hl3 : lv_has ls 3 [(0, .ref (mr 0)), (1, .int z_k)] := hl2
  refine lv_aload_n (pc := 0) E.1 E.2.1 dX11_text_0 rfl (lv_at hl3 0 rfl) ?_
  refine x_get (pc := 1) (T := TX11) (N := 13) (ci := 11) (v := .ref (mr 3)) E hw1 inX11 0 0 q_606 rfl rfl (by decide) rfl rfl dX11_text_1 ?_
  refine x_get (pc := 4) (T := TX10) (N := 17) (ci := 10) (v := .ref (mr 8)) E hw1 inX10 1 1 q_463 rfl rfl (by decide) rfl rfl dX11_text_4 ?_
  refine x_get (pc := 7) (T := TX1) (N := 9) (ci := 1) (v := .int (mi 9)) E hw1 inX1 2 5 q_282 rfl rfl (by decide) rfl rfl dX11_text_7 ?_
  refine lv_istore_n (pc := 10) (lv' := [(2, .int (mi 9)), (0, .ref (mr 0)), (1, .int z_k)]) E.1 E.2.1 dX11_text_10 rfl hl3 (by decide) rfl (fun ls hl4 => ?_)
  refine lv_aload_n (pc := 11) E.1 E.2.1 dX11_text_11 rfl (lv_at hl4 1 rfl) ?_
  refine x_get (pc := 12) (T := TX11) (N := 13) (ci := 11) (v := .ref (mr 20)) E hw1 inX11 0 2 q_608 rfl rfl (by decide) rfl rfl dX11_text_12 ?_
  refine lv_iload_n (pc := 15) E.1 E.2.1 dX11_text_15 rfl (lv_at hl4 2 rfl) ?_
  refine cq_v (pc := 16) (ws' := (fun (u : Int32 × Int32 × Int32 × Int32 × Int32 × Int32 × Int32) => (WZ_Mtext0 cI cJ ad mv mr (upd (upd (upd (upd (upd (upd (upd mi 23 u.2.2.2.2.1) 24 u.1) 25 u.2.2.1) 26 u.2.2.2.1) 27 u.2.1) 28 u.2.2.2.2.2.1) 29 u.2.2.2.2.2.2) mf mg))) hw1 [8, 9] [0, 1, 2, 3, 4, 5, 6, 7, 10, 11, 12, 13, 14] [0, 1, 2, 3, 4, 5, 6, 7, 13, 14, 8, 9, 10, 11, 12] rfl rfl (by decide) (by decide) (fun _ => rfl) (by decide) (rn_V (As := [.int z_k]) (rest := []) E hw1 (t_open l D cI cJ _ (ixf [20, 21, 22, 23, 24, 25, 26, 27, 28, 29] mr) (ixf [20, 21, 22, 23, 24, 25, 26, 27, 28, 29] mi) (ixf [20, 21, 22, 23, 24, 25, 26, 27, 28, 29] mf) (ixf [20, 21, 22, 23, 24, 25, 26, 27, 28, 29] mg) z_k ad av tf (by show 0 ≤ (mi 22).toInt ∧ (mi 22).toInt ≤ 400; omega)) (gdV q_710 q_711 q_712 q_160 q_713) hdV_X8_open ⟨rfl, rfl⟩ ⟨(Nat.le_of_ble_eq_true rfl), (Nat.le_of_ble_eq_true rfl)⟩ ⟨(Nat.le_of_ble_eq_true rfl), (Nat.le_of_ble_eq_true rfl)⟩ xT8_b (xT8_at hX hw1.2.2.1 (va_free hw1.2.1 hw1.2.2.1 hw1.2.2.2 [8, 9] rfl)) 8 8 rfl rfl rfl [8, 9] rfl (by decide) rfl hl4.1 rfl (Nat.le_of_ble_eq_true rfl) dX11_text_16) (fun u_5 H1 locs hp hw7 => ?_)
  obtain ⟨nat_8, nplace_9, nkind_10, nvalue_11, nwords_12, nfault_13, nfaultPlace_14⟩ := u_5
  generalize H1 = H at hw7 ⊢
  have hw15 : WD D A s.heap (WZ_Mtext0 cI cJ ad mv mr (upd (upd (upd (upd (upd (upd (upd mi 23 nwords_12) 24 nat_8) 25 nkind_10) 26 nvalue_11) 27 nplace_9) 28 nfault_13) 29 nfaultPlace_14) mf mg) H locs := hw7
  obtain ⟨hp_16, hp_17, hp_18, hp_19, hp_20⟩ := hp
  have hp_16 : 0 ≤ nat_8.toInt := hp_16
  have hp_17 : nat_8.toInt ≤ (mi 22).toInt := hp_17
  have hp_18 : 0 ≤ nwords_12.toInt := hp_18
  have hp_19 : nwords_12.toInt ≤ 6 := hp_19
  have hp_20 : nfault_13.toInt = 0 := hp_20
  refine lv_iload_n (pc := 19) E.1 E.2.1 dX11_text_19 rfl (lv_at hl4 2 rfl) ?_
  rcases swt (x := z_k) 0 4 with hsw_21 | ⟨hsw_21k, hsw_211, hsw_212, hsw_21⟩
  · skip
    exfalso; omega
  · skip
    rcases (show hsw_21k = 0 ∨ hsw_21k = 1 ∨ hsw_21k = 2 ∨ hsw_21k = 3 ∨ hsw_21k = 4 from by omega) with rfl | rfl | rfl | rfl | rfl
    · skip
      have hsw_21v : z_k.toInt = 0 := hsw_21
      have hsw_21e : z_k = 0 := Int32.toInt_inj.mp (by rw [hsw_21]; decide +kernel)
      refine lv_tableIn (pc := 20) (off := 36) (tgt := 56) E.1 E.2.1 dX11_text_20 (by rw [hsw_21e]; decide +kernel) (by rw [hsw_21e]; decide +kernel) (by rw [hsw_21e]; decide +kernel) (by decide) ?_
      refine lv_aload_n (pc := 56) E.1 E.2.1 dX11_text_56 rfl (lv_at hl4 1 rfl) ?_
      refine x_get (pc := 57) (T := TX11) (N := 13) (ci := 11) (v := .ref (mr 30)) E hw15 inX11 0 3 q_609 rfl rfl (by decide) rfl rfl dX11_text_57 ?_
      refine lv_aload_n (pc := 60) E.1 E.2.1 dX11_text_60 rfl (lv_at hl4 1 rfl) ?_
      refine x_get (pc := 61) (T := TX11) (N := 13) (ci := 11) (v := .ref (mr 20)) E hw15 inX11 0 2 q_608 rfl rfl (by decide) rfl rfl dX11_text_61 ?_
      refine cq_v (pc := 64) (ws' := (fun (u : Int32 × Int32 × Int32 × Int32 × Int32 × Int32 × (Nat → Int32) × Int32 × Int32 × Int32 × Int32 × (Nat → Int32) × (Nat → Int32) × Int32) => (WZ_Mtext0 cI cJ ad mv mr (upd (upd (upd (upd (upd (upd (upd (upd (upd (upd (upd (upd mi 23 nwords_12) 24 u.1) 25 u.2.2.1) 26 u.2.2.2.1) 27 u.2.1) 28 u.2.2.2.2.1) 29 u.2.2.2.2.2.1) 32 u.2.2.2.2.2.2.2.1) 34 u.2.2.2.2.2.2.2.2.2.2.2.2.2) 37 u.2.2.2.2.2.2.2.2.1) 38 u.2.2.2.2.2.2.2.2.2.2.1) 39 u.2.2.2.2.2.2.2.2.2.1) (va_up (va_up (va_up mf 31 u.2.2.2.2.2.2.1) 33 u.2.2.2.2.2.2.2.2.2.2.2.2.1) 36 u.2.2.2.2.2.2.2.2.2.2.2.1) mg))) hw15 [10, 11, 12, 13, 14, 8, 9] [0, 1, 2, 3, 4, 5, 6, 7] [0, 1, 2, 3, 4, 5, 6, 7, 13, 14, 8, 9, 10, 11, 12] rfl rfl (by decide) (by decide) (fun _ => rfl) (by decide) (rn_V (As := [.ref (mr 20)]) (rest := []) E hw15 (t_lawRead l D cI cJ _ (ixf [30, 31, 32, 33, 34, 35, 36, 37, 38, 39, 20, 21, 22, 23, 24, 25, 26, 27, 28, 29] mr) (ixf [30, 31, 32, 33, 34, 35, 36, 37, 38, 39, 20, 21, 22, 23, 24, 25, 26, 27, 28, 29] (upd (upd (upd (upd (upd (upd (upd mi 23 nwords_12) 24 nat_8) 25 nkind_10) 26 nvalue_11) 27 nplace_9) 28 nfault_13) 29 nfaultPlace_14)) (ixf [30, 31, 32, 33, 34, 35, 36, 37, 38, 39, 20, 21, 22, 23, 24, 25, 26, 27, 28, 29] mf) (ixf [30, 31, 32, 33, 34, 35, 36, 37, 38, 39, 20, 21, 22, 23, 24, 25, 26, 27, 28, 29] mg) ad av tf (by show 0 ≤ (mi 22).toInt ∧ (mi 22).toInt ≤ 400; omega) (by show 0 ≤ nat_8.toInt; omega) (by show nat_8.toInt ≤ (mi 22).toInt; omega) (by show 0 ≤ nwords_12.toInt ∧ nwords_12.toInt ≤ 6; omega) (by show 0 ≤ nfault_13.toInt ∧ nfault_13.toInt ≤ 4; omega) a_dl_marks) (gdV q_848 q_849 q_850 q_157 q_851) hdV_X2_read ⟨rfl, rfl⟩ ⟨(Nat.le_of_ble_eq_true rfl), (Nat.le_of_ble_eq_true rfl)⟩ ⟨(Nat.le_of_ble_eq_true rfl), (Nat.le_of_ble_eq_true rfl)⟩ xT8_b (xT8_at hX hw15.2.2.1 (va_free hw15.2.1 hw15.2.2.1 hw15.2.2.2 [10, 11, 12, 13, 14, 8, 9] rfl)) 10 2 rfl rfl rfl [10, 11, 12, 13, 14, 8, 9] rfl (by decide) rfl hl4.1 rfl (Nat.le_of_ble_eq_true rfl) dX11_text_64) (fun u_22 H1 locs hp hw24 => ?_)
      obtain ⟨ntat_25, ntplace_26, ntkind_27, ntvalue_28, ntfault_29, ntfaultPlace_30, gcode_31, nsize_32, nholding_33, nopen_34, nbrackets_35, gheld_36, gmarks_37, nlines_38⟩ := u_22
      generalize H1 = H at hw24 ⊢
      have hw39 : WD D A s.heap (WZ_Mtext0 cI cJ ad mv mr (upd (upd (upd (upd (upd (upd (upd (upd (upd (upd (upd (upd mi 23 nwords_12) 24 ntat_25) 25 ntkind_27) 26 ntvalue_28) 27 ntplace_26) 28 ntfault_29) 29 ntfaultPlace_30) 32 nsize_32) 34 nlines_38) 37 nholding_33) 38 nbrackets_35) 39 nopen_34) (va_up (va_up (va_up mf 31 gcode_31) 33 gmarks_37) 36 gheld_36) mg) H locs := hw24
      obtain ⟨hp_40, hp_41, hp_42, hp_43, hp_44⟩ := hp
      have hp_40 : 0 ≤ ntat_25.toInt := hp_40
      have hp_41 : ntat_25.toInt ≤ (mi 22).toInt := hp_41
      have hp_42 : 0 ≤ ntfault_29.toInt := hp_42
      have hp_43 : ntfault_29.toInt ≤ 4 := hp_43
      refine lv_goto (pc := 67) (tgt := 115) E.1 E.2.1 dX11_text_67 (by decide) ?_
      refine lv_aload_n (pc := 115) E.1 E.2.1 dX11_text_115 rfl (lv_at hl4 1 rfl) ?_
      refine x_get (pc := 116) (T := TX11) (N := 13) (ci := 11) (v := .ref (mr 20)) E hw39 inX11 0 2 q_608 rfl rfl (by decide) rfl rfl dX11_text_116 ?_
      refine lv_iconst (pc := 119) (v := 0) E.1 E.2.1 dX11_text_119 (by decide +kernel) ?_
      refine x_put (pc := 120) (T := TX8) (N := 9) (ci := 8) (ws' := (WZ_Mtext0 cI cJ ad mv mr (upd (upd (upd (upd (upd (upd (upd (upd (upd (upd (upd (upd (upd mi 22 0) 23 nwords_12) 24 ntat_25) 25 ntkind_27) 26 ntvalue_28) 27 ntplace_26) 28 ntfault_29) 29 ntfaultPlace_30) 32 nsize_32) 34 nlines_38) 37 nholding_33) 38 nbrackets_35) 39 nopen_34) (va_up (va_up (va_up mf 31 gcode_31) 33 gmarks_37) 36 gheld_36) mg)) E hw39 inX8 tyX8_ok nmX8 8 1 q_539 rfl rfl (by decide) rfl rfl rfl rfl (Nat.le_of_ble_eq_true rfl) rfl dX11_text_120 (fun H locs hw45 => ?_)
      refine lv_aload_n (pc := 123) E.1 E.2.1 dX11_text_123 rfl (lv_at hl4 1 rfl) ?_
      refine x_get (pc := 124) (T := TX11) (N := 13) (ci := 11) (v := .ref (mr 20)) E hw45 inX11 0 2 q_608 rfl rfl (by decide) rfl rfl dX11_text_124 ?_
      refine x_get (pc := 127) (T := TX8) (N := 9) (ci := 8) (v := .int ntfault_29) E hw45 inX8 8 7 q_555 rfl rfl (by decide) rfl rfl dX11_text_127 ?_
      refine lv_if_ne (pc := 130) (tgt := 141) E.1 E.2.1 dX11_text_130 (by decide) (fun c_46 => ?_) (fun c_46 => ?_)
      · skip
        have hc_46 := neE (a := ntfault_29.toInt) (b := 0) rfl (by decide +kernel) c_46
        refine lv_iconst (pc := 141) (v := (-1)) E.1 E.2.1 dX11_text_141 (by decide +kernel) ?_
        exact em_i (w1 := (fun (u : (Nat → Int32) × (Nat → Nat → Int32) × (Nat → Nat → Int64)) => (WZ_Mtext0 cI cJ ad mv mr u.1 u.2.1 u.2.2))) E hr hlk ((upd (upd (upd (upd (upd (upd (upd (upd (upd (upd (upd (upd (upd mi 22 0) 23 nwords_12) 24 ntat_25) 25 ntkind_27) 26 ntvalue_28) 27 ntplace_26) 28 ntfault_29) 29 ntfaultPlace_30) 32 nsize_32) 34 nlines_38) 37 nholding_33) 38 nbrackets_35) 39 nopen_34), (va_up (va_up (va_up mf 31 gcode_31) 33 gmarks_37) 36 gheld_36), mg) hw45 ⟨(by show 0 ≤ (mi 1).toInt; have k_0 : (0 : Int32).toInt = 0 := (by decide +kernel); have k_1 : ((-1) : Int32).toInt = -1 := (by decide +kernel); omega), (by show (mi 1).toInt ≤ 5; have k_0 : (0 : Int32).toInt = 0 := (by decide +kernel); have k_1 : ((-1) : Int32).toInt = -1 := (by decide +kernel); omega), (by show 0 ≤ (mi 2).toInt; have k_0 : (0 : Int32).toInt = 0 := (by decide +kernel); have k_1 : ((-1) : Int32).toInt = -1 := (by decide +kernel); omega), (by show (mi 2).toInt ≤ 6; have k_0 : (0 : Int32).toInt = 0 := (by decide +kernel); have k_1 : ((-1) : Int32).toInt = -1 := (by decide +kernel); omega), (by show 0 ≤ (mi 9).toInt; have k_0 : (0 : Int32).toInt = 0 := (by decide +kernel); have k_1 : ((-1) : Int32).toInt = -1 := (by decide +kernel); omega), (by show (mi 9).toInt ≤ 10; have k_0 : (0 : Int32).toInt = 0 := (by decide +kernel); have k_1 : ((-1) : Int32).toInt = -1 := (by decide +kernel); omega), (by show 0 ≤ (0 : Int32).toInt; have k_0 : (0 : Int32).toInt = 0 := (by decide +kernel); have k_1 : ((-1) : Int32).toInt = -1 := (by decide +kernel); omega), (by show (0 : Int32).toInt ≤ 400; have k_0 : (0 : Int32).toInt = 0 := (by decide +kernel); have k_1 : ((-1) : Int32).toInt = -1 := (by decide +kernel); omega), (by show 0 ≤ nwords_12.toInt; have k_0 : (0 : Int32).toInt = 0 := (by decide +kernel); have k_1 : ((-1) : Int32).toInt = -1 := (by decide +kernel); omega), (by show nwords_12.toInt ≤ 6; have k_0 : (0 : Int32).toInt = 0 := (by decide +kernel); have k_1 : ((-1) : Int32).toInt = -1 := (by decide +kernel); omega), (by show 0 ≤ ntfault_29.toInt; have k_0 : (0 : Int32).toInt = 0 := (by decide +kernel); have k_1 : ((-1) : Int32).toInt = -1 := (by decide +kernel); omega), (by show ntfault_29.toInt ≤ 4; have k_0 : (0 : Int32).toInt = 0 := (by decide +kernel); have k_1 : ((-1) : Int32).toInt = -1 := (by decide +kernel); omega), (by show (0 : Int32).toInt = 0; have k_0 : (0 : Int32).toInt = 0 := (by decide +kernel); have k_1 : ((-1) : Int32).toInt = -1 := (by decide +kernel); omega), a_t_marks, hp_44⟩ (Nat.le_of_ble_eq_true rfl) (Nat.le_of_ble_eq_true rfl) dX11_text_142
      · skip
        have hc_46 := eqE (a := ntfault_29.toInt) (b := 0) rfl (by decide +kernel) c_46
        refine lv_aload_n (pc := 133) E.1 E.2.1 dX11_text_133 rfl (lv_at hl4 1 rfl) ?_
        refine lv_iload_n (pc := 134) E.1 E.2.1 dX11_text_134 rfl (lv_at hl4 2 rfl) ?_
        refine cq_i (pc := 135) (ws' := (fun (u : (Nat → Int32) × (Nat → Nat → Int32) × (Nat → Nat → Int64)) => (WZ_Mtext0 cI cJ ad mv mr (upd (upd (upd (upd (upd (upd (upd (upd (upd (upd (upd (upd (upd (upd (upd (upd (upd (upd (upd (upd (upd (upd (upd (upd (upd mi 1 (u.1 1)) 2 (u.1 2)) 4 (u.1 4)) 5 (u.1 5)) 6 (u.1 6)) 7 (u.1 7)) 9 (u.1 9)) 12 (u.1 12)) 14 (u.1 14)) 17 (u.1 17)) 18 (u.1 18)) 19 (u.1 19)) 22 (u.1 22)) 23 (u.1 23)) 24 (u.1 24)) 25 (u.1 25)) 26 (u.1 26)) 27 (u.1 27)) 28 (u.1 28)) 29 (u.1 29)) 32 (u.1 32)) 34 (u.1 34)) 37 (u.1 37)) 38 (u.1 38)) 39 (u.1 39)) (va_up (va_up (va_up (va_up (va_up (va_up (va_up (va_up (va_up mf 11 (u.2.1 11)) 13 (u.2.1 13)) 15 (u.2.1 15)) 16 (u.2.1 16)) 21 (u.2.1 21)) 31 (u.2.1 31)) 33 (u.2.1 33)) 35 (u.2.1 35)) 36 (u.2.1 36)) mg))) hw45 [0, 1, 2, 3, 4, 5, 6, 7, 8, 9, 10, 11, 12, 13, 14] [] [0, 1, 2, 3, 4, 5, 6, 7, 8, 9, 10, 11, 12, 13, 14] rfl rfl (by decide) (by decide) (fun _ => rfl) (by decide) (rn_V (As := [.int z_k]) (rest := []) E hw45 (t_take0 l D cI cJ _ (ixf [0, 1, 2, 3, 4, 5, 6, 7, 8, 9, 10, 11, 12, 13, 14, 15, 16, 17, 18, 19, 20, 21, 22, 23, 24, 25, 26, 27, 28, 29, 30, 31, 32, 33, 34, 35, 36, 37, 38, 39] mr) (ixf [0, 1, 2, 3, 4, 5, 6, 7, 8, 9, 10, 11, 12, 13, 14, 15, 16, 17, 18, 19, 20, 21, 22, 23, 24, 25, 26, 27, 28, 29, 30, 31, 32, 33, 34, 35, 36, 37, 38, 39] (upd (upd (upd (upd (upd (upd (upd (upd (upd (upd (upd (upd (upd mi 22 0) 23 nwords_12) 24 ntat_25) 25 ntkind_27) 26 ntvalue_28) 27 ntplace_26) 28 ntfault_29) 29 ntfaultPlace_30) 32 nsize_32) 34 nlines_38) 37 nholding_33) 38 nbrackets_35) 39 nopen_34)) (ixf [0, 1, 2, 3, 4, 5, 6, 7, 8, 9, 10, 11, 12, 13, 14, 15, 16, 17, 18, 19, 20, 21, 22, 23, 24, 25, 26, 27, 28, 29, 30, 31, 32, 33, 34, 35, 36, 37, 38, 39] (va_up (va_up (va_up mf 31 gcode_31) 33 gmarks_37) 36 gheld_36)) (ixf [0, 1, 2, 3, 4, 5, 6, 7, 8, 9, 10, 11, 12, 13, 14, 15, 16, 17, 18, 19, 20, 21, 22, 23, 24, 25, 26, 27, 28, 29, 30, 31, 32, 33, 34, 35, 36, 37, 38, 39] mg) z_k ad (vl [mv 0, mv 1, mv 2, mv 3, mv 4, mv 5, mv 6, mv 7, mv 8, mv 9, mv 10, mv 11, mv 12, mv 13, mv 14, mv 15, mv 16, mv 17, mv 18, mv 19, mv 20, mv 21, mv 22, mv 23, mv 24, mv 25, mv 26]) (by show 0 ≤ (mi 1).toInt ∧ (mi 1).toInt ≤ 5; omega) (by show 0 ≤ (mi 2).toInt ∧ (mi 2).toInt ≤ 6; omega) (by show 0 ≤ (mi 9).toInt ∧ (mi 9).toInt ≤ 10; omega) (by show 0 ≤ (0 : Int32).toInt ∧ (0 : Int32).toInt ≤ 400; have k_0 : (0 : Int32).toInt = 0 := (by decide +kernel); omega) (by show 0 ≤ nwords_12.toInt ∧ nwords_12.toInt ≤ 6; omega) (by show 0 ≤ ntfault_29.toInt ∧ ntfault_29.toInt ≤ 4; omega) (by show z_k.toInt = 0; omega) a_t_marks hp_44) (gdV q_957 q_959 q_18 q_151 q_960) hdV_X11_takeDraft ⟨rfl, rfl⟩ ⟨(Nat.le_of_ble_eq_true rfl), (Nat.le_of_ble_eq_true rfl)⟩ ⟨(Nat.le_of_ble_eq_true rfl), (Nat.le_of_ble_eq_true rfl)⟩ xT_b xT_at 0 11 rfl rfl rfl [0, 1, 2, 3, 4, 5, 6, 7, 8, 9, 10, 11, 12, 13, 14] rfl (by decide) rfl hl4.1 rfl (Nat.le_of_ble_eq_true rfl) dX11_text_135) (fun r_48 u_47 H1 locs hp hw49 => ?_)
        obtain ⟨Mi_50, Mf_51, Mg_52⟩ := u_47
        generalize H1 = H at hw49 ⊢
        have hw53 : WD D A s.heap (WZ_Mtext0 cI cJ ad mv mr (upd (upd (upd (upd (upd (upd (upd (upd (upd (upd (upd (upd (upd (upd (upd (upd (upd (upd (upd (upd (upd (upd (upd (upd (upd mi 1 (Mi_50 1)) 2 (Mi_50 2)) 4 (Mi_50 4)) 5 (Mi_50 5)) 6 (Mi_50 6)) 7 (Mi_50 7)) 9 (Mi_50 9)) 12 (Mi_50 12)) 14 (Mi_50 14)) 17 (Mi_50 17)) 18 (Mi_50 18)) 19 (Mi_50 19)) 22 (Mi_50 22)) 23 (Mi_50 23)) 24 (Mi_50 24)) 25 (Mi_50 25)) 26 (Mi_50 26)) 27 (Mi_50 27)) 28 (Mi_50 28)) 29 (Mi_50 29)) 32 (Mi_50 32)) 34 (Mi_50 34)) 37 (Mi_50 37)) 38 (Mi_50 38)) 39 (Mi_50 39)) (va_up (va_up (va_up (va_up (va_up (va_up (va_up (va_up (va_up mf 11 (Mf_51 11)) 13 (Mf_51 13)) 15 (Mf_51 15)) 16 (Mf_51 16)) 21 (Mf_51 21)) 31 (Mf_51 31)) 33 (Mf_51 33)) 35 (Mf_51 35)) 36 (Mf_51 36)) mg) H locs := hw49
        obtain ⟨hp_54, hp_55, hp_56, hp_57, hp_58, hp_59, hp_60, hp_61, hp_62, hp_63, hp_64, hp_65, hp_66, hp_67, hp_68⟩ := hp
        have hp_54 : 0 ≤ (Mi_50 1).toInt := hp_54
        have hp_55 : (Mi_50 1).toInt ≤ 5 := hp_55
        have hp_56 : 0 ≤ (Mi_50 2).toInt := hp_56
        have hp_57 : (Mi_50 2).toInt ≤ 6 := hp_57
        have hp_58 : 0 ≤ (Mi_50 9).toInt := hp_58
        have hp_59 : (Mi_50 9).toInt ≤ 10 := hp_59
        have hp_60 : 0 ≤ (Mi_50 22).toInt := hp_60
        have hp_61 : (Mi_50 22).toInt ≤ 400 := hp_61
        have hp_62 : 0 ≤ (Mi_50 23).toInt := hp_62
        have hp_63 : (Mi_50 23).toInt ≤ 6 := hp_63
        have hp_64 : 0 ≤ (Mi_50 28).toInt := hp_64
        have hp_65 : (Mi_50 28).toInt ≤ 4 := hp_65
        have hp_66 : (Mi_50 22).toInt = (0 : Int32).toInt := hp_66
        rw [show (0 : Int32).toInt = 0 from by decide +kernel] at hp_66
        refine lv_goto (pc := 138) (tgt := 142) E.1 E.2.1 dX11_text_138 (by decide) ?_
        exact em_i (w1 := (fun (u : (Nat → Int32) × (Nat → Nat → Int32) × (Nat → Nat → Int64)) => (WZ_Mtext0 cI cJ ad mv mr u.1 u.2.1 u.2.2))) E hr hlk ((upd (upd (upd (upd (upd (upd (upd (upd (upd (upd (upd (upd (upd (upd (upd (upd (upd (upd (upd (upd (upd (upd (upd (upd (upd mi 1 (Mi_50 1)) 2 (Mi_50 2)) 4 (Mi_50 4)) 5 (Mi_50 5)) 6 (Mi_50 6)) 7 (Mi_50 7)) 9 (Mi_50 9)) 12 (Mi_50 12)) 14 (Mi_50 14)) 17 (Mi_50 17)) 18 (Mi_50 18)) 19 (Mi_50 19)) 22 (Mi_50 22)) 23 (Mi_50 23)) 24 (Mi_50 24)) 25 (Mi_50 25)) 26 (Mi_50 26)) 27 (Mi_50 27)) 28 (Mi_50 28)) 29 (Mi_50 29)) 32 (Mi_50 32)) 34 (Mi_50 34)) 37 (Mi_50 37)) 38 (Mi_50 38)) 39 (Mi_50 39)), (va_up (va_up (va_up (va_up (va_up (va_up (va_up (va_up (va_up mf 11 (Mf_51 11)) 13 (Mf_51 13)) 15 (Mf_51 15)) 16 (Mf_51 16)) 21 (Mf_51 21)) 31 (Mf_51 31)) 33 (Mf_51 33)) 35 (Mf_51 35)) 36 (Mf_51 36)), mg) hw53 ⟨(by show 0 ≤ (Mi_50 1).toInt; omega), (by show (Mi_50 1).toInt ≤ 5; omega), (by show 0 ≤ (Mi_50 2).toInt; omega), (by show (Mi_50 2).toInt ≤ 6; omega), (by show 0 ≤ (Mi_50 9).toInt; omega), (by show (Mi_50 9).toInt ≤ 10; omega), (by show 0 ≤ (Mi_50 22).toInt; omega), (by show (Mi_50 22).toInt ≤ 400; omega), (by show 0 ≤ (Mi_50 23).toInt; omega), (by show (Mi_50 23).toInt ≤ 6; omega), (by show 0 ≤ (Mi_50 28).toInt; omega), (by show (Mi_50 28).toInt ≤ 4; omega), (by show (Mi_50 22).toInt = 0; omega), hp_67, hp_68⟩ (Nat.le_of_ble_eq_true rfl) (Nat.le_of_ble_eq_true rfl) dX11_text_142
    · skip
      have hsw_21v : z_k.toInt = 1 := hsw_21
      have hsw_21e : z_k = 1 := Int32.toInt_inj.mp (by rw [hsw_21]; decide +kernel)
      refine lv_tableIn (pc := 20) (off := 36) (tgt := 56) E.1 E.2.1 dX11_text_20 (by rw [hsw_21e]; decide +kernel) (by rw [hsw_21e]; decide +kernel) (by rw [hsw_21e]; decide +kernel) (by decide) ?_
      exfalso; omega
    · skip
      have hsw_21v : z_k.toInt = 2 := hsw_21
      have hsw_21e : z_k = 2 := Int32.toInt_inj.mp (by rw [hsw_21]; decide +kernel)
      refine lv_tableIn (pc := 20) (off := 50) (tgt := 70) E.1 E.2.1 dX11_text_20 (by rw [hsw_21e]; decide +kernel) (by rw [hsw_21e]; decide +kernel) (by rw [hsw_21e]; decide +kernel) (by decide) ?_
      exfalso; omega
    · skip
      have hsw_21v : z_k.toInt = 3 := hsw_21
      have hsw_21e : z_k = 3 := Int32.toInt_inj.mp (by rw [hsw_21]; decide +kernel)
      refine lv_tableIn (pc := 20) (off := 65) (tgt := 85) E.1 E.2.1 dX11_text_20 (by rw [hsw_21e]; decide +kernel) (by rw [hsw_21e]; decide +kernel) (by rw [hsw_21e]; decide +kernel) (by decide) ?_
      exfalso; omega
    · skip
      have hsw_21v : z_k.toInt = 4 := hsw_21
      have hsw_21e : z_k = 4 := Int32.toInt_inj.mp (by rw [hsw_21]; decide +kernel)
      refine lv_tableIn (pc := 20) (off := 80) (tgt := 100) E.1 E.2.1 dX11_text_20 (by rw [hsw_21e]; decide +kernel) (by rw [hsw_21e]; decide +kernel) (by rw [hsw_21e]; decide +kernel) (by decide) ?_
      exfalso; omega
set_option maxHeartbeats 4000000 in
set_option maxRecDepth 100000 in
theorem t_take1 (l : Launch) (D : va_G) (cI cJ : ClassId) (sz : Nat) (mr : Nat → Nat) (mi : Nat → Int32) (mf : Nat → Nat → Int32) (mg : Nat → Nat → Int64) (z_k : Int32) (ad : Nat → Nat) (mv : Nat → Value) (h0 : 0 ≤ (mi 1).toInt ∧ (mi 1).toInt ≤ 5) (h1 : 0 ≤ (mi 2).toInt ∧ (mi 2).toInt ≤ 6) (h2 : 0 ≤ (mi 9).toInt ∧ (mi 9).toInt ≤ 10) (h3 : 0 ≤ (mi 22).toInt ∧ (mi 22).toInt ≤ 400) (h4 : 0 ≤ (mi 23).toInt ∧ (mi 23).toInt ≤ 6) (h5 : 0 ≤ (mi 28).toInt ∧ (mi 28).toInt ≤ 4) (h6 : z_k.toInt = 1) (a_u_marks : m4 (mf 13)) (a_dl_marks : m4 (mf 33)) : Met l yX11_takeDraft (Cond.code yX11_takeDraft cX11_takeDraft 2 (some .int) :: GW) ({ frames := 3, cells := 0, slots := 0, locals := 82 } : Room) (va_Pc [.ref (mr 0), .int z_k] (PW D cI cJ sz (WZ_Mtext1 cI cJ ad mv mr mi mf mg) xT)) (va_Qi (fun (r : Int32) (u : (Nat → Int32) × (Nat → Nat → Int32) × (Nat → Nat → Int64)) => (0 ≤ (u.1 1).toInt) ∧ ((u.1 1).toInt ≤ 5) ∧ (0 ≤ (u.1 2).toInt) ∧ ((u.1 2).toInt ≤ 6) ∧ (0 ≤ (u.1 9).toInt) ∧ ((u.1 9).toInt ≤ 10) ∧ (0 ≤ (u.1 22).toInt) ∧ ((u.1 22).toInt ≤ 400) ∧ (0 ≤ (u.1 23).toInt) ∧ ((u.1 23).toInt ≤ 6) ∧ (0 ≤ (u.1 28).toInt) ∧ ((u.1 28).toInt ≤ 4) ∧ ((u.1 22).toInt = (mi 22).toInt) ∧ (m4 (u.2.1 13)) ∧ (m4 (u.2.1 33))) (fun u => QW D cI cJ (va_A (WZ_Mtext1 cI cJ ad mv mr mi mf mg) sz) ((fun (u : (Nat → Int32) × (Nat → Nat → Int32) × (Nat → Nat → Int64)) => (WZ_Mtext1 cI cJ ad mv mr u.1 u.2.1 u.2.2)) u)) (va_A (WZ_Mtext1 cI cJ ad mv mr mi mf mg) sz)) 0 0 (va_A (WZ_Mtext1 cI cJ ad mv mr mi mf mg) sz) := by
  refine mk_met (y := yX11_takeDraft) (bytes := cX11_takeDraft) (maxL := 2) (avs := [.ref (mr 0), .int z_k]) (WS := (WZ_Mtext1 cI cJ ad mv mr mi mf mg)) (Qf := fun A => va_Qi (fun (r : Int32) (u : (Nat → Int32) × (Nat → Nat → Int32) × (Nat → Nat → Int64)) => (0 ≤ (u.1 1).toInt) ∧ ((u.1 1).toInt ≤ 5) ∧ (0 ≤ (u.1 2).toInt) ∧ ((u.1 2).toInt ≤ 6) ∧ (0 ≤ (u.1 9).toInt) ∧ ((u.1 9).toInt ≤ 10) ∧ (0 ≤ (u.1 22).toInt) ∧ ((u.1 22).toInt ≤ 400) ∧ (0 ≤ (u.1 23).toInt) ∧ ((u.1 23).toInt ≤ 6) ∧ (0 ≤ (u.1 28).toInt) ∧ ((u.1 28).toInt ≤ 4) ∧ ((u.1 22).toInt = (mi 22).toInt) ∧ (m4 (u.2.1 13)) ∧ (m4 (u.2.1 33))) (fun u => QW D cI cJ A ((fun (u : (Nat → Int32) × (Nat → Nat → Int32) × (Nat → Nat → Int64)) => (WZ_Mtext1 cI cJ ad mv mr u.1 u.2.1 u.2.2)) u)) A) (by decide) (Nat.le_of_ble_eq_true rfl) ?_
  intro p e s m below meth c A ls E hr hlk hnm hX hw1 hl2
  have hl3 : lv_has ls 2 [(0, .ref (mr 0)), (1, .int z_k)] := hl2
  refine lv_iload_n (pc := 0) E.1 E.2.1 dX11_takeDraft_0 rfl (lv_at hl3 1 rfl) ?_
  rcases swt (x := z_k) 0 4 with hsw_4 | ⟨hsw_4k, hsw_41, hsw_42, hsw_4⟩
  · skip
    exfalso; omega
  · skip
    rcases (show hsw_4k = 0 ∨ hsw_4k = 1 ∨ hsw_4k = 2 ∨ hsw_4k = 3 ∨ hsw_4k = 4 from by omega) with rfl | rfl | rfl | rfl | rfl
    · skip
      have hsw_4v : z_k.toInt = 0 := hsw_4
      have hsw_4e : z_k = 0 := Int32.toInt_inj.mp (by rw [hsw_4]; decide +kernel)
      refine lv_tableIn (pc := 1) (off := 35) (tgt := 36) E.1 E.2.1 dX11_takeDraft_1 (by rw [hsw_4e]; decide +kernel) (by rw [hsw_4e]; decide +kernel) (by rw [hsw_4e]; decide +kernel) (by decide) ?_
      exfalso; omega
    · skip
      have hsw_4v : z_k.toInt = 1 := hsw_4
      have hsw_4e : z_k = 1 := Int32.toInt_inj.mp (by rw [hsw_4]; decide +kernel)
      refine lv_tableIn (pc := 1) (off := 57) (tgt := 58) E.1 E.2.1 dX11_takeDraft_1 (by rw [hsw_4e]; decide +kernel) (by rw [hsw_4e]; decide +kernel) (by rw [hsw_4e]; decide +kernel) (by decide) ?_
      refine lv_aload_n (pc := 58) E.1 E.2.1 dX11_takeDraft_58 rfl (lv_at hl3 0 rfl) ?_
      refine x_get (pc := 59) (T := TX11) (N := 13) (ci := 11) (v := .ref (mr 3)) E hw1 inX11 0 0 q_606 rfl rfl (by decide) rfl rfl dX11_takeDraft_59 ?_
      refine x_get (pc := 62) (T := TX10) (N := 17) (ci := 10) (v := .ref (mr 10)) E hw1 inX10 1 5 q_473 rfl rfl (by decide) rfl rfl dX11_takeDraft_62 ?_
      refine lv_aload_n (pc := 65) E.1 E.2.1 dX11_takeDraft_65 rfl (lv_at hl3 0 rfl) ?_
      refine x_get (pc := 66) (T := TX11) (N := 13) (ci := 11) (v := .ref (mr 30)) E hw1 inX11 0 3 q_609 rfl rfl (by decide) rfl rfl dX11_takeDraft_66 ?_
      refine cq_v (pc := 69) (ws' := (fun (u : (Nat → Int32) × (Nat → Int32) × Int32) => (WZ_Mtext1 cI cJ ad mv mr (upd mi 14 u.2.2) (va_up (va_up mf 11 u.1) 13 u.2.1) mg))) hw1 [3, 4, 5, 6, 7, 10, 11, 12, 13, 14] [0, 1, 2, 8, 9] [0, 1, 2, 5, 6, 7, 8, 9, 3, 4, 10, 11, 12, 13, 14] rfl rfl (by decide) (by decide) (fun _ => rfl) (by decide) (rn_V (As := [.ref (mr 30)]) (rest := []) E hw1 (t_lawTake l D cI cJ _ (ixf [10, 11, 12, 13, 14, 15, 16, 17, 18, 19, 30, 31, 32, 33, 34, 35, 36, 37, 38, 39] mr) (ixf [10, 11, 12, 13, 14, 15, 16, 17, 18, 19, 30, 31, 32, 33, 34, 35, 36, 37, 38, 39] mi) (ixf [10, 11, 12, 13, 14, 15, 16, 17, 18, 19, 30, 31, 32, 33, 34, 35, 36, 37, 38, 39] mf) (ixf [10, 11, 12, 13, 14, 15, 16, 17, 18, 19, 30, 31, 32, 33, 34, 35, 36, 37, 38, 39] mg) a_dl_marks) (gdV q_961 q_962 q_963 q_157 q_964) hdV_X2_take ⟨rfl, rfl⟩ ⟨(Nat.le_of_ble_eq_true rfl), (Nat.le_of_ble_eq_true rfl)⟩ ⟨(Nat.le_of_ble_eq_true rfl), (Nat.le_of_ble_eq_true rfl)⟩ xT_b xT_at 3 2 rfl rfl rfl [3, 4, 5, 6, 7, 10, 11, 12, 13, 14] rfl (by decide) rfl hl3.1 rfl (Nat.le_of_ble_eq_true rfl) dX11_takeDraft_69) (fun u_5 H1 locs hp hw7 => ?_)
      obtain ⟨gcode_8, gmarks_9, nlines_10⟩ := u_5
      generalize H1 = H at hw7 ⊢
      have hw11 : WD D A s.heap (WZ_Mtext1 cI cJ ad mv mr (upd mi 14 nlines_10) (va_up (va_up mf 11 gcode_8) 13 gmarks_9) mg) H locs := hw7
      obtain ⟨hp_12, hp_13⟩ := hp
      have hp_12 : nlines_10.toInt = (mi 34).toInt := hp_12
      refine lv_aload_n (pc := 72) E.1 E.2.1 dX11_takeDraft_72 rfl (lv_at hl3 0 rfl) ?_
      refine x_get (pc := 73) (T := TX11) (N := 13) (ci := 11) (v := .ref (mr 30)) E hw11 inX11 0 3 q_609 rfl rfl (by decide) rfl rfl dX11_takeDraft_73 ?_
      refine x_get (pc := 76) (T := TX2) (N := 9) (ci := 2) (v := .int (mi 34)) E hw11 inX2 10 3 q_388 rfl rfl (by decide) rfl rfl dX11_takeDraft_76 ?_
      exact em_i (w1 := (fun (u : (Nat → Int32) × (Nat → Nat → Int32) × (Nat → Nat → Int64)) => (WZ_Mtext1 cI cJ ad mv mr u.1 u.2.1 u.2.2))) E hr hlk ((upd mi 14 nlines_10), (va_up (va_up mf 11 gcode_8) 13 gmarks_9), mg) hw11 ⟨(by show 0 ≤ (mi 1).toInt; omega), (by show (mi 1).toInt ≤ 5; omega), (by show 0 ≤ (mi 2).toInt; omega), (by show (mi 2).toInt ≤ 6; omega), (by show 0 ≤ (mi 9).toInt; omega), (by show (mi 9).toInt ≤ 10; omega), (by show 0 ≤ (mi 22).toInt; omega), (by show (mi 22).toInt ≤ 400; omega), (by show 0 ≤ (mi 23).toInt; omega), (by show (mi 23).toInt ≤ 6; omega), (by show 0 ≤ (mi 28).toInt; omega), (by show (mi 28).toInt ≤ 4; omega), (by show (mi 22).toInt = (mi 22).toInt; omega), hp_13, a_dl_marks⟩ (Nat.le_of_ble_eq_true rfl) (Nat.le_of_ble_eq_true rfl) dX11_takeDraft_79
    · skip
      have hsw_4v : z_k.toInt = 2 := hsw_4
      have hsw_4e : z_k = 2 := Int32.toInt_inj.mp (by rw [hsw_4]; decide +kernel)
      refine lv_tableIn (pc := 1) (off := 79) (tgt := 80) E.1 E.2.1 dX11_takeDraft_1 (by rw [hsw_4e]; decide +kernel) (by rw [hsw_4e]; decide +kernel) (by rw [hsw_4e]; decide +kernel) (by decide) ?_
      exfalso; omega
    · skip
      have hsw_4v : z_k.toInt = 3 := hsw_4
      have hsw_4e : z_k = 3 := Int32.toInt_inj.mp (by rw [hsw_4]; decide +kernel)
      refine lv_tableIn (pc := 1) (off := 105) (tgt := 106) E.1 E.2.1 dX11_takeDraft_1 (by rw [hsw_4e]; decide +kernel) (by rw [hsw_4e]; decide +kernel) (by rw [hsw_4e]; decide +kernel) (by decide) ?_
      exfalso; omega
    · skip
      have hsw_4v : z_k.toInt = 4 := hsw_4
      have hsw_4e : z_k = 4 := Int32.toInt_inj.mp (by rw [hsw_4]; decide +kernel)
      refine lv_tableIn (pc := 1) (off := 141) (tgt := 142) E.1 E.2.1 dX11_takeDraft_1 (by rw [hsw_4e]; decide +kernel) (by rw [hsw_4e]; decide +kernel) (by rw [hsw_4e]; decide +kernel) (by decide) ?_
      exfalso; omega
set_option maxHeartbeats 4000000 in
set_option maxRecDepth 100000 in
theorem t_text1 (l : Launch) (D : va_G) (cI cJ : ClassId) (sz : Nat) (mr : Nat → Nat) (mi : Nat → Int32) (mf : Nat → Nat → Int32) (mg : Nat → Nat → Int64) (z_k : Int32) (ad av : Nat → Nat) (tf : Value) (mv : Nat → Value) (h0 : 0 ≤ (mi 1).toInt ∧ (mi 1).toInt ≤ 5) (h1 : 0 ≤ (mi 2).toInt ∧ (mi 2).toInt ≤ 6) (h2 : 0 ≤ (mi 9).toInt ∧ (mi 9).toInt ≤ 10) (h3 : 0 ≤ (mi 22).toInt ∧ (mi 22).toInt ≤ 400) (h4 : 0 ≤ (mi 23).toInt ∧ (mi 23).toInt ≤ 6) (h5 : 0 ≤ (mi 28).toInt ∧ (mi 28).toInt ≤ 4) (h6 : z_k.toInt = 1) (a_u_marks : m4 (mf 13)) (a_dl_marks : m4 (mf 33)) : Met l yX11_text (Cond.code yX11_text cX11_text 3 (some .int) :: GW) ({ frames := 11, cells := 0, slots := 0, locals := 263 } : Room) (va_Pc [.ref (mr 0), .int z_k] (PW D cI cJ sz (WZ_Mtext1 cI cJ ad mv mr mi mf mg) (xT8 ad av tf (va_A (WZ_Mtext1 cI cJ ad mv mr mi mf mg) sz)))) (va_Qi (fun (r : Int32) (u : (Nat → Int32) × (Nat → Nat → Int32) × (Nat → Nat → Int64)) => (0 ≤ (u.1 1).toInt) ∧ ((u.1 1).toInt ≤ 5) ∧ (0 ≤ (u.1 2).toInt) ∧ ((u.1 2).toInt ≤ 6) ∧ (0 ≤ (u.1 9).toInt) ∧ ((u.1 9).toInt ≤ 10) ∧ (0 ≤ (u.1 22).toInt) ∧ ((u.1 22).toInt ≤ 400) ∧ (0 ≤ (u.1 23).toInt) ∧ ((u.1 23).toInt ≤ 6) ∧ (0 ≤ (u.1 28).toInt) ∧ ((u.1 28).toInt ≤ 4) ∧ ((u.1 22).toInt = 0) ∧ (m4 (u.2.1 13)) ∧ (m4 (u.2.1 33))) (fun u => QW D cI cJ (va_A (WZ_Mtext1 cI cJ ad mv mr mi mf mg) sz) ((fun (u : (Nat → Int32) × (Nat → Nat → Int32) × (Nat → Nat → Int64)) => (WZ_Mtext1 cI cJ ad mv mr u.1 u.2.1 u.2.2)) u)) (va_A (WZ_Mtext1 cI cJ ad mv mr mi mf mg) sz)) 0 0 (va_A (WZ_Mtext1 cI cJ ad mv mr mi mf mg) sz) := by
  refine mk_metA (X := fun A => xT8 ad av tf A) (y := yX11_text) (bytes := cX11_text) (maxL := 3) (avs := [.ref (mr 0), .int z_k]) (WS := (WZ_Mtext1 cI cJ ad mv mr mi mf mg)) (Qf := fun A => va_Qi (fun (r : Int32) (u : (Nat → Int32) × (Nat → Nat → Int32) × (Nat → Nat → Int64)) => (0 ≤ (u.1 1).toInt) ∧ ((u.1 1).toInt ≤ 5) ∧ (0 ≤ (u.1 2).toInt) ∧ ((u.1 2).toInt ≤ 6) ∧ (0 ≤ (u.1 9).toInt) ∧ ((u.1 9).toInt ≤ 10) ∧ (0 ≤ (u.1 22).toInt) ∧ ((u.1 22).toInt ≤ 400) ∧ (0 ≤ (u.1 23).toInt) ∧ ((u.1 23).toInt ≤ 6) ∧ (0 ≤ (u.1 28).toInt) ∧ ((u.1 28).toInt ≤ 4) ∧ ((u.1 22).toInt = 0) ∧ (m4 (u.2.1 13)) ∧ (m4 (u.2.1 33))) (fun u => QW D cI cJ A ((fun (u : (Nat → Int32) × (Nat → Nat → Int32) × (Nat → Nat → Int64)) => (WZ_Mtext1 cI cJ ad mv mr u.1 u.2.1 u.2.2)) u)) A) (by decide) (Nat.le_of_ble_eq_true rfl) ?_
  intro p e s m below meth c A ls E hr hlk hnm hX hw1 hl2
  have hl3 : lv_has ls 3 [(0, .ref (mr 0)), (1, .int z_k)] := hl2
  refine lv_aload_n (pc := 0) E.1 E.2.1 dX11_text_0 rfl (lv_at hl3 0 rfl) ?_
  refine x_get (pc := 1) (T := TX11) (N := 13) (ci := 11) (v := .ref (mr 3)) E hw1 inX11 0 0 q_606 rfl rfl (by decide) rfl rfl dX11_text_1 ?_
  refine x_get (pc := 4) (T := TX10) (N := 17) (ci := 10) (v := .ref (mr 8)) E hw1 inX10 1 1 q_463 rfl rfl (by decide) rfl rfl dX11_text_4 ?_
  refine x_get (pc := 7) (T := TX1) (N := 9) (ci := 1) (v := .int (mi 9)) E hw1 inX1 2 5 q_282 rfl rfl (by decide) rfl rfl dX11_text_7 ?_
  refine lv_istore_n (pc := 10) (lv' := [(2, .int (mi 9)), (0, .ref (mr 0)), (1, .int z_k)]) E.1 E.2.1 dX11_text_10 rfl hl3 (by decide) rfl (fun ls hl4 => ?_)
  refine lv_aload_n (pc := 11) E.1 E.2.1 dX11_text_11 rfl (lv_at hl4 1 rfl) ?_
  refine x_get (pc := 12) (T := TX11) (N := 13) (ci := 11) (v := .ref (mr 20)) E hw1 inX11 0 2 q_608 rfl rfl (by decide) rfl rfl dX11_text_12 ?_
  refine lv_iload_n (pc := 15) E.1 E.2.1 dX11_text_15 rfl (lv_at hl4 2 rfl) ?_
  refine cq_v (pc := 16) (ws' := (fun (u : Int32 × Int32 × Int32 × Int32 × Int32 × Int32 × Int32) => (WZ_Mtext1 cI cJ ad mv mr (upd (upd (upd (upd (upd (upd (upd mi 23 u.2.2.2.2.1) 24 u.1) 25 u.2.2.1) 26 u.2.2.2.1) 27 u.2.1) 28 u.2.2.2.2.2.1) 29 u.2.2.2.2.2.2) mf mg))) hw1 [8, 9] [0, 1, 2, 3, 4, 5, 6, 7, 10, 11, 12, 13, 14] [0, 1, 2, 3, 4, 5, 6, 7, 13, 14, 8, 9, 10, 11, 12] rfl rfl (by decide) (by decide) (fun _ => rfl) (by decide) (rn_V (As := [.int z_k]) (rest := []) E hw1 (t_open l D cI cJ _ (ixf [20, 21, 22, 23, 24, 25, 26, 27, 28, 29] mr) (ixf [20, 21, 22, 23, 24, 25, 26, 27, 28, 29] mi) (ixf [20, 21, 22, 23, 24, 25, 26, 27, 28, 29] mf) (ixf [20, 21, 22, 23, 24, 25, 26, 27, 28, 29] mg) z_k ad av tf (by show 0 ≤ (mi 22).toInt ∧ (mi 22).toInt ≤ 400; omega)) (gdV q_710 q_711 q_712 q_160 q_713) hdV_X8_open ⟨rfl, rfl⟩ ⟨(Nat.le_of_ble_eq_true rfl), (Nat.le_of_ble_eq_true rfl)⟩ ⟨(Nat.le_of_ble_eq_true rfl), (Nat.le_of_ble_eq_true rfl)⟩ xT8_b (xT8_at hX hw1.2.2.1 (va_free hw1.2.1 hw1.2.2.1 hw1.2.2.2 [8, 9] rfl)) 8 8 rfl rfl rfl [8, 9] rfl (by decide) rfl hl4.1 rfl (Nat.le_of_ble_eq_true rfl) dX11_text_16) (fun u_5 H1 locs hp hw7 => ?_)
  obtain ⟨nat_8, nplace_9, nkind_10, nvalue_11, nwords_12, nfault_13, nfaultPlace_14⟩ := u_5
  generalize H1 = H at hw7 ⊢
  have hw15 : WD D A s.heap (WZ_Mtext1 cI cJ ad mv mr (upd (upd (upd (upd (upd (upd (upd mi 23 nwords_12) 24 nat_8) 25 nkind_10) 26 nvalue_11) 27 nplace_9) 28 nfault_13) 29 nfaultPlace_14) mf mg) H locs := hw7
  obtain ⟨hp_16, hp_17, hp_18, hp_19, hp_20⟩ := hp
  have hp_16 : 0 ≤ nat_8.toInt := hp_16
  have hp_17 : nat_8.toInt ≤ (mi 22).toInt := hp_17
  have hp_18 : 0 ≤ nwords_12.toInt := hp_18
  have hp_19 : nwords_12.toInt ≤ 6 := hp_19
  have hp_20 : nfault_13.toInt = 0 := hp_20
  refine lv_iload_n (pc := 19) E.1 E.2.1 dX11_text_19 rfl (lv_at hl4 2 rfl) ?_
  rcases swt (x := z_k) 0 4 with hsw_21 | ⟨hsw_21k, hsw_211, hsw_212, hsw_21⟩
  · skip
    exfalso; omega
  · skip
    rcases (show hsw_21k = 0 ∨ hsw_21k = 1 ∨ hsw_21k = 2 ∨ hsw_21k = 3 ∨ hsw_21k = 4 from by omega) with rfl | rfl | rfl | rfl | rfl
    · skip
      have hsw_21v : z_k.toInt = 0 := hsw_21
      have hsw_21e : z_k = 0 := Int32.toInt_inj.mp (by rw [hsw_21]; decide +kernel)
      refine lv_tableIn (pc := 20) (off := 36) (tgt := 56) E.1 E.2.1 dX11_text_20 (by rw [hsw_21e]; decide +kernel) (by rw [hsw_21e]; decide +kernel) (by rw [hsw_21e]; decide +kernel) (by decide) ?_
      exfalso; omega
    · skip
      have hsw_21v : z_k.toInt = 1 := hsw_21
      have hsw_21e : z_k = 1 := Int32.toInt_inj.mp (by rw [hsw_21]; decide +kernel)
      refine lv_tableIn (pc := 20) (off := 36) (tgt := 56) E.1 E.2.1 dX11_text_20 (by rw [hsw_21e]; decide +kernel) (by rw [hsw_21e]; decide +kernel) (by rw [hsw_21e]; decide +kernel) (by decide) ?_
      refine lv_aload_n (pc := 56) E.1 E.2.1 dX11_text_56 rfl (lv_at hl4 1 rfl) ?_
      refine x_get (pc := 57) (T := TX11) (N := 13) (ci := 11) (v := .ref (mr 30)) E hw15 inX11 0 3 q_609 rfl rfl (by decide) rfl rfl dX11_text_57 ?_
      refine lv_aload_n (pc := 60) E.1 E.2.1 dX11_text_60 rfl (lv_at hl4 1 rfl) ?_
      refine x_get (pc := 61) (T := TX11) (N := 13) (ci := 11) (v := .ref (mr 20)) E hw15 inX11 0 2 q_608 rfl rfl (by decide) rfl rfl dX11_text_61 ?_
      refine cq_v (pc := 64) (ws' := (fun (u : Int32 × Int32 × Int32 × Int32 × Int32 × Int32 × (Nat → Int32) × Int32 × Int32 × Int32 × Int32 × (Nat → Int32) × (Nat → Int32) × Int32) => (WZ_Mtext1 cI cJ ad mv mr (upd (upd (upd (upd (upd (upd (upd (upd (upd (upd (upd (upd mi 23 nwords_12) 24 u.1) 25 u.2.2.1) 26 u.2.2.2.1) 27 u.2.1) 28 u.2.2.2.2.1) 29 u.2.2.2.2.2.1) 32 u.2.2.2.2.2.2.2.1) 34 u.2.2.2.2.2.2.2.2.2.2.2.2.2) 37 u.2.2.2.2.2.2.2.2.1) 38 u.2.2.2.2.2.2.2.2.2.2.1) 39 u.2.2.2.2.2.2.2.2.2.1) (va_up (va_up (va_up mf 31 u.2.2.2.2.2.2.1) 33 u.2.2.2.2.2.2.2.2.2.2.2.2.1) 36 u.2.2.2.2.2.2.2.2.2.2.2.1) mg))) hw15 [10, 11, 12, 13, 14, 8, 9] [0, 1, 2, 3, 4, 5, 6, 7] [0, 1, 2, 3, 4, 5, 6, 7, 13, 14, 8, 9, 10, 11, 12] rfl rfl (by decide) (by decide) (fun _ => rfl) (by decide) (rn_V (As := [.ref (mr 20)]) (rest := []) E hw15 (t_lawRead l D cI cJ _ (ixf [30, 31, 32, 33, 34, 35, 36, 37, 38, 39, 20, 21, 22, 23, 24, 25, 26, 27, 28, 29] mr) (ixf [30, 31, 32, 33, 34, 35, 36, 37, 38, 39, 20, 21, 22, 23, 24, 25, 26, 27, 28, 29] (upd (upd (upd (upd (upd (upd (upd mi 23 nwords_12) 24 nat_8) 25 nkind_10) 26 nvalue_11) 27 nplace_9) 28 nfault_13) 29 nfaultPlace_14)) (ixf [30, 31, 32, 33, 34, 35, 36, 37, 38, 39, 20, 21, 22, 23, 24, 25, 26, 27, 28, 29] mf) (ixf [30, 31, 32, 33, 34, 35, 36, 37, 38, 39, 20, 21, 22, 23, 24, 25, 26, 27, 28, 29] mg) ad av tf (by show 0 ≤ (mi 22).toInt ∧ (mi 22).toInt ≤ 400; omega) (by show 0 ≤ nat_8.toInt; omega) (by show nat_8.toInt ≤ (mi 22).toInt; omega) (by show 0 ≤ nwords_12.toInt ∧ nwords_12.toInt ≤ 6; omega) (by show 0 ≤ nfault_13.toInt ∧ nfault_13.toInt ≤ 4; omega) a_dl_marks) (gdV q_848 q_849 q_850 q_157 q_851) hdV_X2_read ⟨rfl, rfl⟩ ⟨(Nat.le_of_ble_eq_true rfl), (Nat.le_of_ble_eq_true rfl)⟩ ⟨(Nat.le_of_ble_eq_true rfl), (Nat.le_of_ble_eq_true rfl)⟩ xT8_b (xT8_at hX hw15.2.2.1 (va_free hw15.2.1 hw15.2.2.1 hw15.2.2.2 [10, 11, 12, 13, 14, 8, 9] rfl)) 10 2 rfl rfl rfl [10, 11, 12, 13, 14, 8, 9] rfl (by decide) rfl hl4.1 rfl (Nat.le_of_ble_eq_true rfl) dX11_text_64) (fun u_22 H1 locs hp hw24 => ?_)
      obtain ⟨ntat_25, ntplace_26, ntkind_27, ntvalue_28, ntfault_29, ntfaultPlace_30, gcode_31, nsize_32, nholding_33, nopen_34, nbrackets_35, gheld_36, gmarks_37, nlines_38⟩ := u_22
      generalize H1 = H at hw24 ⊢
      have hw39 : WD D A s.heap (WZ_Mtext1 cI cJ ad mv mr (upd (upd (upd (upd (upd (upd (upd (upd (upd (upd (upd (upd mi 23 nwords_12) 24 ntat_25) 25 ntkind_27) 26 ntvalue_28) 27 ntplace_26) 28 ntfault_29) 29 ntfaultPlace_30) 32 nsize_32) 34 nlines_38) 37 nholding_33) 38 nbrackets_35) 39 nopen_34) (va_up (va_up (va_up mf 31 gcode_31) 33 gmarks_37) 36 gheld_36) mg) H locs := hw24
      obtain ⟨hp_40, hp_41, hp_42, hp_43, hp_44⟩ := hp
      have hp_40 : 0 ≤ ntat_25.toInt := hp_40
      have hp_41 : ntat_25.toInt ≤ (mi 22).toInt := hp_41
      have hp_42 : 0 ≤ ntfault_29.toInt := hp_42
      have hp_43 : ntfault_29.toInt ≤ 4 := hp_43
      refine lv_goto (pc := 67) (tgt := 115) E.1 E.2.1 dX11_text_67 (by decide) ?_
      refine lv_aload_n (pc := 115) E.1 E.2.1 dX11_text_115 rfl (lv_at hl4 1 rfl) ?_
      refine x_get (pc := 116) (T := TX11) (N := 13) (ci := 11) (v := .ref (mr 20)) E hw39 inX11 0 2 q_608 rfl rfl (by decide) rfl rfl dX11_text_116 ?_
      refine lv_iconst (pc := 119) (v := 0) E.1 E.2.1 dX11_text_119 (by decide +kernel) ?_
      refine x_put (pc := 120) (T := TX8) (N := 9) (ci := 8) (ws' := (WZ_Mtext1 cI cJ ad mv mr (upd (upd (upd (upd (upd (upd (upd (upd (upd (upd (upd (upd (upd mi 22 0) 23 nwords_12) 24 ntat_25) 25 ntkind_27) 26 ntvalue_28) 27 ntplace_26) 28 ntfault_29) 29 ntfaultPlace_30) 32 nsize_32) 34 nlines_38) 37 nholding_33) 38 nbrackets_35) 39 nopen_34) (va_up (va_up (va_up mf 31 gcode_31) 33 gmarks_37) 36 gheld_36) mg)) E hw39 inX8 tyX8_ok nmX8 8 1 q_539 rfl rfl (by decide) rfl rfl rfl rfl (Nat.le_of_ble_eq_true rfl) rfl dX11_text_120 (fun H locs hw45 => ?_)
      refine lv_aload_n (pc := 123) E.1 E.2.1 dX11_text_123 rfl (lv_at hl4 1 rfl) ?_
      refine x_get (pc := 124) (T := TX11) (N := 13) (ci := 11) (v := .ref (mr 20)) E hw45 inX11 0 2 q_608 rfl rfl (by decide) rfl rfl dX11_text_124 ?_
      refine x_get (pc := 127) (T := TX8) (N := 9) (ci := 8) (v := .int ntfault_29) E hw45 inX8 8 7 q_555 rfl rfl (by decide) rfl rfl dX11_text_127 ?_
      refine lv_if_ne (pc := 130) (tgt := 141) E.1 E.2.1 dX11_text_130 (by decide) (fun c_46 => ?_) (fun c_46 => ?_)
      · skip
        have hc_46 := neE (a := ntfault_29.toInt) (b := 0) rfl (by decide +kernel) c_46
        refine lv_iconst (pc := 141) (v := (-1)) E.1 E.2.1 dX11_text_141 (by decide +kernel) ?_
        exact em_i (w1 := (fun (u : (Nat → Int32) × (Nat → Nat → Int32) × (Nat → Nat → Int64)) => (WZ_Mtext1 cI cJ ad mv mr u.1 u.2.1 u.2.2))) E hr hlk ((upd (upd (upd (upd (upd (upd (upd (upd (upd (upd (upd (upd (upd mi 22 0) 23 nwords_12) 24 ntat_25) 25 ntkind_27) 26 ntvalue_28) 27 ntplace_26) 28 ntfault_29) 29 ntfaultPlace_30) 32 nsize_32) 34 nlines_38) 37 nholding_33) 38 nbrackets_35) 39 nopen_34), (va_up (va_up (va_up mf 31 gcode_31) 33 gmarks_37) 36 gheld_36), mg) hw45 ⟨(by show 0 ≤ (mi 1).toInt; have k_0 : (0 : Int32).toInt = 0 := (by decide +kernel); have k_1 : ((-1) : Int32).toInt = -1 := (by decide +kernel); omega), (by show (mi 1).toInt ≤ 5; have k_0 : (0 : Int32).toInt = 0 := (by decide +kernel); have k_1 : ((-1) : Int32).toInt = -1 := (by decide +kernel); omega), (by show 0 ≤ (mi 2).toInt; have k_0 : (0 : Int32).toInt = 0 := (by decide +kernel); have k_1 : ((-1) : Int32).toInt = -1 := (by decide +kernel); omega), (by show (mi 2).toInt ≤ 6; have k_0 : (0 : Int32).toInt = 0 := (by decide +kernel); have k_1 : ((-1) : Int32).toInt = -1 := (by decide +kernel); omega), (by show 0 ≤ (mi 9).toInt; have k_0 : (0 : Int32).toInt = 0 := (by decide +kernel); have k_1 : ((-1) : Int32).toInt = -1 := (by decide +kernel); omega), (by show (mi 9).toInt ≤ 10; have k_0 : (0 : Int32).toInt = 0 := (by decide +kernel); have k_1 : ((-1) : Int32).toInt = -1 := (by decide +kernel); omega), (by show 0 ≤ (0 : Int32).toInt; have k_0 : (0 : Int32).toInt = 0 := (by decide +kernel); have k_1 : ((-1) : Int32).toInt = -1 := (by decide +kernel); omega), (by show (0 : Int32).toInt ≤ 400; have k_0 : (0 : Int32).toInt = 0 := (by decide +kernel); have k_1 : ((-1) : Int32).toInt = -1 := (by decide +kernel); omega), (by show 0 ≤ nwords_12.toInt; have k_0 : (0 : Int32).toInt = 0 := (by decide +kernel); have k_1 : ((-1) : Int32).toInt = -1 := (by decide +kernel); omega), (by show nwords_12.toInt ≤ 6; have k_0 : (0 : Int32).toInt = 0 := (by decide +kernel); have k_1 : ((-1) : Int32).toInt = -1 := (by decide +kernel); omega), (by show 0 ≤ ntfault_29.toInt; have k_0 : (0 : Int32).toInt = 0 := (by decide +kernel); have k_1 : ((-1) : Int32).toInt = -1 := (by decide +kernel); omega), (by show ntfault_29.toInt ≤ 4; have k_0 : (0 : Int32).toInt = 0 := (by decide +kernel); have k_1 : ((-1) : Int32).toInt = -1 := (by decide +kernel); omega), (by show (0 : Int32).toInt = 0; have k_0 : (0 : Int32).toInt = 0 := (by decide +kernel); have k_1 : ((-1) : Int32).toInt = -1 := (by decide +kernel); omega), a_u_marks, hp_44⟩ (Nat.le_of_ble_eq_true rfl) (Nat.le_of_ble_eq_true rfl) dX11_text_142
      · skip
        have hc_46 := eqE (a := ntfault_29.toInt) (b := 0) rfl (by decide +kernel) c_46
        refine lv_aload_n (pc := 133) E.1 E.2.1 dX11_text_133 rfl (lv_at hl4 1 rfl) ?_
        refine lv_iload_n (pc := 134) E.1 E.2.1 dX11_text_134 rfl (lv_at hl4 2 rfl) ?_
        refine cq_i (pc := 135) (ws' := (fun (u : (Nat → Int32) × (Nat → Nat → Int32) × (Nat → Nat → Int64)) => (WZ_Mtext1 cI cJ ad mv mr (upd (upd (upd (upd (upd (upd (upd (upd (upd (upd (upd (upd (upd (upd (upd (upd (upd (upd (upd (upd (upd (upd (upd (upd (upd mi 1 (u.1 1)) 2 (u.1 2)) 4 (u.1 4)) 5 (u.1 5)) 6 (u.1 6)) 7 (u.1 7)) 9 (u.1 9)) 12 (u.1 12)) 14 (u.1 14)) 17 (u.1 17)) 18 (u.1 18)) 19 (u.1 19)) 22 (u.1 22)) 23 (u.1 23)) 24 (u.1 24)) 25 (u.1 25)) 26 (u.1 26)) 27 (u.1 27)) 28 (u.1 28)) 29 (u.1 29)) 32 (u.1 32)) 34 (u.1 34)) 37 (u.1 37)) 38 (u.1 38)) 39 (u.1 39)) (va_up (va_up (va_up (va_up (va_up (va_up (va_up (va_up (va_up mf 11 (u.2.1 11)) 13 (u.2.1 13)) 15 (u.2.1 15)) 16 (u.2.1 16)) 21 (u.2.1 21)) 31 (u.2.1 31)) 33 (u.2.1 33)) 35 (u.2.1 35)) 36 (u.2.1 36)) mg))) hw45 [0, 1, 2, 3, 4, 5, 6, 7, 8, 9, 10, 11, 12, 13, 14] [] [0, 1, 2, 3, 4, 5, 6, 7, 8, 9, 10, 11, 12, 13, 14] rfl rfl (by decide) (by decide) (fun _ => rfl) (by decide) (rn_V (As := [.int z_k]) (rest := []) E hw45 (t_take1 l D cI cJ _ (ixf [0, 1, 2, 3, 4, 5, 6, 7, 8, 9, 10, 11, 12, 13, 14, 15, 16, 17, 18, 19, 20, 21, 22, 23, 24, 25, 26, 27, 28, 29, 30, 31, 32, 33, 34, 35, 36, 37, 38, 39] mr) (ixf [0, 1, 2, 3, 4, 5, 6, 7, 8, 9, 10, 11, 12, 13, 14, 15, 16, 17, 18, 19, 20, 21, 22, 23, 24, 25, 26, 27, 28, 29, 30, 31, 32, 33, 34, 35, 36, 37, 38, 39] (upd (upd (upd (upd (upd (upd (upd (upd (upd (upd (upd (upd (upd mi 22 0) 23 nwords_12) 24 ntat_25) 25 ntkind_27) 26 ntvalue_28) 27 ntplace_26) 28 ntfault_29) 29 ntfaultPlace_30) 32 nsize_32) 34 nlines_38) 37 nholding_33) 38 nbrackets_35) 39 nopen_34)) (ixf [0, 1, 2, 3, 4, 5, 6, 7, 8, 9, 10, 11, 12, 13, 14, 15, 16, 17, 18, 19, 20, 21, 22, 23, 24, 25, 26, 27, 28, 29, 30, 31, 32, 33, 34, 35, 36, 37, 38, 39] (va_up (va_up (va_up mf 31 gcode_31) 33 gmarks_37) 36 gheld_36)) (ixf [0, 1, 2, 3, 4, 5, 6, 7, 8, 9, 10, 11, 12, 13, 14, 15, 16, 17, 18, 19, 20, 21, 22, 23, 24, 25, 26, 27, 28, 29, 30, 31, 32, 33, 34, 35, 36, 37, 38, 39] mg) z_k ad (vl [mv 0, mv 1, mv 2, mv 3, mv 4, mv 5, mv 6, mv 7, mv 8, mv 9, mv 10, mv 11, mv 12, mv 13, mv 14, mv 15, mv 16, mv 17, mv 18, mv 19, mv 20, mv 21, mv 22, mv 23, mv 24, mv 25, mv 26]) (by show 0 ≤ (mi 1).toInt ∧ (mi 1).toInt ≤ 5; omega) (by show 0 ≤ (mi 2).toInt ∧ (mi 2).toInt ≤ 6; omega) (by show 0 ≤ (mi 9).toInt ∧ (mi 9).toInt ≤ 10; omega) (by show 0 ≤ (0 : Int32).toInt ∧ (0 : Int32).toInt ≤ 400; have k_0 : (0 : Int32).toInt = 0 := (by decide +kernel); omega) (by show 0 ≤ nwords_12.toInt ∧ nwords_12.toInt ≤ 6; omega) (by show 0 ≤ ntfault_29.toInt ∧ ntfault_29.toInt ≤ 4; omega) (by show z_k.toInt = 1; omega) a_u_marks hp_44) (gdV q_957 q_959 q_18 q_151 q_960) hdV_X11_takeDraft ⟨rfl, rfl⟩ ⟨(Nat.le_of_ble_eq_true rfl), (Nat.le_of_ble_eq_true rfl)⟩ ⟨(Nat.le_of_ble_eq_true rfl), (Nat.le_of_ble_eq_true rfl)⟩ xT_b xT_at 0 11 rfl rfl rfl [0, 1, 2, 3, 4, 5, 6, 7, 8, 9, 10, 11, 12, 13, 14] rfl (by decide) rfl hl4.1 rfl (Nat.le_of_ble_eq_true rfl) dX11_text_135) (fun r_48 u_47 H1 locs hp hw49 => ?_)
        obtain ⟨Mi_50, Mf_51, Mg_52⟩ := u_47
        generalize H1 = H at hw49 ⊢
        have hw53 : WD D A s.heap (WZ_Mtext1 cI cJ ad mv mr (upd (upd (upd (upd (upd (upd (upd (upd (upd (upd (upd (upd (upd (upd (upd (upd (upd (upd (upd (upd (upd (upd (upd (upd (upd mi 1 (Mi_50 1)) 2 (Mi_50 2)) 4 (Mi_50 4)) 5 (Mi_50 5)) 6 (Mi_50 6)) 7 (Mi_50 7)) 9 (Mi_50 9)) 12 (Mi_50 12)) 14 (Mi_50 14)) 17 (Mi_50 17)) 18 (Mi_50 18)) 19 (Mi_50 19)) 22 (Mi_50 22)) 23 (Mi_50 23)) 24 (Mi_50 24)) 25 (Mi_50 25)) 26 (Mi_50 26)) 27 (Mi_50 27)) 28 (Mi_50 28)) 29 (Mi_50 29)) 32 (Mi_50 32)) 34 (Mi_50 34)) 37 (Mi_50 37)) 38 (Mi_50 38)) 39 (Mi_50 39)) (va_up (va_up (va_up (va_up (va_up (va_up (va_up (va_up (va_up mf 11 (Mf_51 11)) 13 (Mf_51 13)) 15 (Mf_51 15)) 16 (Mf_51 16)) 21 (Mf_51 21)) 31 (Mf_51 31)) 33 (Mf_51 33)) 35 (Mf_51 35)) 36 (Mf_51 36)) mg) H locs := hw49
        obtain ⟨hp_54, hp_55, hp_56, hp_57, hp_58, hp_59, hp_60, hp_61, hp_62, hp_63, hp_64, hp_65, hp_66, hp_67, hp_68⟩ := hp
        have hp_54 : 0 ≤ (Mi_50 1).toInt := hp_54
        have hp_55 : (Mi_50 1).toInt ≤ 5 := hp_55
        have hp_56 : 0 ≤ (Mi_50 2).toInt := hp_56
        have hp_57 : (Mi_50 2).toInt ≤ 6 := hp_57
        have hp_58 : 0 ≤ (Mi_50 9).toInt := hp_58
        have hp_59 : (Mi_50 9).toInt ≤ 10 := hp_59
        have hp_60 : 0 ≤ (Mi_50 22).toInt := hp_60
        have hp_61 : (Mi_50 22).toInt ≤ 400 := hp_61
        have hp_62 : 0 ≤ (Mi_50 23).toInt := hp_62
        have hp_63 : (Mi_50 23).toInt ≤ 6 := hp_63
        have hp_64 : 0 ≤ (Mi_50 28).toInt := hp_64
        have hp_65 : (Mi_50 28).toInt ≤ 4 := hp_65
        have hp_66 : (Mi_50 22).toInt = (0 : Int32).toInt := hp_66
        rw [show (0 : Int32).toInt = 0 from by decide +kernel] at hp_66
        refine lv_goto (pc := 138) (tgt := 142) E.1 E.2.1 dX11_text_138 (by decide) ?_
        exact em_i (w1 := (fun (u : (Nat → Int32) × (Nat → Nat → Int32) × (Nat → Nat → Int64)) => (WZ_Mtext1 cI cJ ad mv mr u.1 u.2.1 u.2.2))) E hr hlk ((upd (upd (upd (upd (upd (upd (upd (upd (upd (upd (upd (upd (upd (upd (upd (upd (upd (upd (upd (upd (upd (upd (upd (upd (upd mi 1 (Mi_50 1)) 2 (Mi_50 2)) 4 (Mi_50 4)) 5 (Mi_50 5)) 6 (Mi_50 6)) 7 (Mi_50 7)) 9 (Mi_50 9)) 12 (Mi_50 12)) 14 (Mi_50 14)) 17 (Mi_50 17)) 18 (Mi_50 18)) 19 (Mi_50 19)) 22 (Mi_50 22)) 23 (Mi_50 23)) 24 (Mi_50 24)) 25 (Mi_50 25)) 26 (Mi_50 26)) 27 (Mi_50 27)) 28 (Mi_50 28)) 29 (Mi_50 29)) 32 (Mi_50 32)) 34 (Mi_50 34)) 37 (Mi_50 37)) 38 (Mi_50 38)) 39 (Mi_50 39)), (va_up (va_up (va_up (va_up (va_up (va_up (va_up (va_up (va_up mf 11 (Mf_51 11)) 13 (Mf_51 13)) 15 (Mf_51 15)) 16 (Mf_51 16)) 21 (Mf_51 21)) 31 (Mf_51 31)) 33 (Mf_51 33)) 35 (Mf_51 35)) 36 (Mf_51 36)), mg) hw53 ⟨(by show 0 ≤ (Mi_50 1).toInt; omega), (by show (Mi_50 1).toInt ≤ 5; omega), (by show 0 ≤ (Mi_50 2).toInt; omega), (by show (Mi_50 2).toInt ≤ 6; omega), (by show 0 ≤ (Mi_50 9).toInt; omega), (by show (Mi_50 9).toInt ≤ 10; omega), (by show 0 ≤ (Mi_50 22).toInt; omega), (by show (Mi_50 22).toInt ≤ 400; omega), (by show 0 ≤ (Mi_50 23).toInt; omega), (by show (Mi_50 23).toInt ≤ 6; omega), (by show 0 ≤ (Mi_50 28).toInt; omega), (by show (Mi_50 28).toInt ≤ 4; omega), (by show (Mi_50 22).toInt = 0; omega), hp_67, hp_68⟩ (Nat.le_of_ble_eq_true rfl) (Nat.le_of_ble_eq_true rfl) dX11_text_142
    · skip
      have hsw_21v : z_k.toInt = 2 := hsw_21
      have hsw_21e : z_k = 2 := Int32.toInt_inj.mp (by rw [hsw_21]; decide +kernel)
      refine lv_tableIn (pc := 20) (off := 50) (tgt := 70) E.1 E.2.1 dX11_text_20 (by rw [hsw_21e]; decide +kernel) (by rw [hsw_21e]; decide +kernel) (by rw [hsw_21e]; decide +kernel) (by decide) ?_
      exfalso; omega
    · skip
      have hsw_21v : z_k.toInt = 3 := hsw_21
      have hsw_21e : z_k = 3 := Int32.toInt_inj.mp (by rw [hsw_21]; decide +kernel)
      refine lv_tableIn (pc := 20) (off := 65) (tgt := 85) E.1 E.2.1 dX11_text_20 (by rw [hsw_21e]; decide +kernel) (by rw [hsw_21e]; decide +kernel) (by rw [hsw_21e]; decide +kernel) (by decide) ?_
      exfalso; omega
    · skip
      have hsw_21v : z_k.toInt = 4 := hsw_21
      have hsw_21e : z_k = 4 := Int32.toInt_inj.mp (by rw [hsw_21]; decide +kernel)
      refine lv_tableIn (pc := 20) (off := 80) (tgt := 100) E.1 E.2.1 dX11_text_20 (by rw [hsw_21e]; decide +kernel) (by rw [hsw_21e]; decide +kernel) (by rw [hsw_21e]; decide +kernel) (by decide) ?_
      exfalso; omega
set_option maxHeartbeats 4000000 in
set_option maxRecDepth 100000 in
theorem t_takeXa (l : Launch) (D : va_G) (cI cJ : ClassId) (sz : Nat) (mr : Nat → Nat) (mi : Nat → Int32) (mf : Nat → Nat → Int32) (mg : Nat → Nat → Int64) (z_k : Int32) (ad : Nat → Nat) (mv : Nat → Value) (h0 : 0 ≤ (mi 1).toInt ∧ (mi 1).toInt ≤ 5) (h1 : 0 ≤ (mi 2).toInt ∧ (mi 2).toInt ≤ 6) (h2 : 0 ≤ (mi 9).toInt ∧ (mi 9).toInt ≤ 10) (h3 : 0 ≤ (mi 12).toInt ∧ (mi 12).toInt ≤ 400) (h4 : 0 ≤ (mi 13).toInt ∧ (mi 13).toInt ≤ 6) (h5 : 0 ≤ (mi 18).toInt ∧ (mi 18).toInt ≤ 4) (h6 : z_k.toInt ≤ (-1)) : Met l yX11_takeDraft (Cond.code yX11_takeDraft cX11_takeDraft 2 (some .int) :: GW) ({ frames := 3, cells := 0, slots := 0, locals := 82 } : Room) (va_Pc [.ref (mr 0), .int z_k] (PW D cI cJ sz (WZ_MtextX cI cJ ad mv mr mi mf mg) xT)) (va_Qi (fun (r : Int32) (u : (Nat → Int32) × (Nat → Nat → Int32) × (Nat → Nat → Int64)) => (0 ≤ (u.1 1).toInt) ∧ ((u.1 1).toInt ≤ 5) ∧ (0 ≤ (u.1 2).toInt) ∧ ((u.1 2).toInt ≤ 6) ∧ (0 ≤ (u.1 9).toInt) ∧ ((u.1 9).toInt ≤ 10) ∧ (0 ≤ (u.1 12).toInt) ∧ ((u.1 12).toInt ≤ 400) ∧ (0 ≤ (u.1 13).toInt) ∧ ((u.1 13).toInt ≤ 6) ∧ (0 ≤ (u.1 18).toInt) ∧ ((u.1 18).toInt ≤ 4) ∧ ((u.1 12).toInt = (mi 12).toInt)) (fun u => QW D cI cJ (va_A (WZ_MtextX cI cJ ad mv mr mi mf mg) sz) ((fun (u : (Nat → Int32) × (Nat → Nat → Int32) × (Nat → Nat → Int64)) => (WZ_MtextX cI cJ ad mv mr u.1 u.2.1 u.2.2)) u)) (va_A (WZ_MtextX cI cJ ad mv mr mi mf mg) sz)) 0 0 (va_A (WZ_MtextX cI cJ ad mv mr mi mf mg) sz) := by
  refine mk_met (y := yX11_takeDraft) (bytes := cX11_takeDraft) (maxL := 2) (avs := [.ref (mr 0), .int z_k]) (WS := (WZ_MtextX cI cJ ad mv mr mi mf mg)) (Qf := fun A => va_Qi (fun (r : Int32) (u : (Nat → Int32) × (Nat → Nat → Int32) × (Nat → Nat → Int64)) => (0 ≤ (u.1 1).toInt) ∧ ((u.1 1).toInt ≤ 5) ∧ (0 ≤ (u.1 2).toInt) ∧ ((u.1 2).toInt ≤ 6) ∧ (0 ≤ (u.1 9).toInt) ∧ ((u.1 9).toInt ≤ 10) ∧ (0 ≤ (u.1 12).toInt) ∧ ((u.1 12).toInt ≤ 400) ∧ (0 ≤ (u.1 13).toInt) ∧ ((u.1 13).toInt ≤ 6) ∧ (0 ≤ (u.1 18).toInt) ∧ ((u.1 18).toInt ≤ 4) ∧ ((u.1 12).toInt = (mi 12).toInt)) (fun u => QW D cI cJ A ((fun (u : (Nat → Int32) × (Nat → Nat → Int32) × (Nat → Nat → Int64)) => (WZ_MtextX cI cJ ad mv mr u.1 u.2.1 u.2.2)) u)) A) (by decide) (Nat.le_of_ble_eq_true rfl) ?_
  intro p e s m below meth c A ls E hr hlk hnm hX hw1 hl2
  have hl3 : lv_has ls 2 [(0, .ref (mr 0)), (1, .int z_k)] := hl2
  refine lv_iload_n (pc := 0) E.1 E.2.1 dX11_takeDraft_0 rfl (lv_at hl3 1 rfl) ?_
  rcases swt (x := z_k) 0 4 with hsw_4 | ⟨hsw_4k, hsw_41, hsw_42, hsw_4⟩
  · skip
    refine lv_tableOut (pc := 1) (tgt := 179) E.1 E.2.1 dX11_takeDraft_1 hsw_4 (by decide) ?_
    refine lv_iconst (pc := 179) (v := (-1)) E.1 E.2.1 dX11_takeDraft_179 (by decide +kernel) ?_
    exact em_i (w1 := (fun (u : (Nat → Int32) × (Nat → Nat → Int32) × (Nat → Nat → Int64)) => (WZ_MtextX cI cJ ad mv mr u.1 u.2.1 u.2.2))) E hr hlk (mi, mf, mg) hw1 ⟨(by show 0 ≤ (mi 1).toInt; have k_0 : ((-1) : Int32).toInt = -1 := (by decide +kernel); omega), (by show (mi 1).toInt ≤ 5; have k_0 : ((-1) : Int32).toInt = -1 := (by decide +kernel); omega), (by show 0 ≤ (mi 2).toInt; have k_0 : ((-1) : Int32).toInt = -1 := (by decide +kernel); omega), (by show (mi 2).toInt ≤ 6; have k_0 : ((-1) : Int32).toInt = -1 := (by decide +kernel); omega), (by show 0 ≤ (mi 9).toInt; have k_0 : ((-1) : Int32).toInt = -1 := (by decide +kernel); omega), (by show (mi 9).toInt ≤ 10; have k_0 : ((-1) : Int32).toInt = -1 := (by decide +kernel); omega), (by show 0 ≤ (mi 12).toInt; have k_0 : ((-1) : Int32).toInt = -1 := (by decide +kernel); omega), (by show (mi 12).toInt ≤ 400; have k_0 : ((-1) : Int32).toInt = -1 := (by decide +kernel); omega), (by show 0 ≤ (mi 13).toInt; have k_0 : ((-1) : Int32).toInt = -1 := (by decide +kernel); omega), (by show (mi 13).toInt ≤ 6; have k_0 : ((-1) : Int32).toInt = -1 := (by decide +kernel); omega), (by show 0 ≤ (mi 18).toInt; have k_0 : ((-1) : Int32).toInt = -1 := (by decide +kernel); omega), (by show (mi 18).toInt ≤ 4; have k_0 : ((-1) : Int32).toInt = -1 := (by decide +kernel); omega), (by show (mi 12).toInt = (mi 12).toInt; have k_0 : ((-1) : Int32).toInt = -1 := (by decide +kernel); omega)⟩ (Nat.le_of_ble_eq_true rfl) (Nat.le_of_ble_eq_true rfl) dX11_takeDraft_180
  · skip
    rcases (show hsw_4k = 0 ∨ hsw_4k = 1 ∨ hsw_4k = 2 ∨ hsw_4k = 3 ∨ hsw_4k = 4 from by omega) with rfl | rfl | rfl | rfl | rfl
    · skip
      have hsw_4v : z_k.toInt = 0 := hsw_4
      have hsw_4e : z_k = 0 := Int32.toInt_inj.mp (by rw [hsw_4]; decide +kernel)
      refine lv_tableIn (pc := 1) (off := 35) (tgt := 36) E.1 E.2.1 dX11_takeDraft_1 (by rw [hsw_4e]; decide +kernel) (by rw [hsw_4e]; decide +kernel) (by rw [hsw_4e]; decide +kernel) (by decide) ?_
      exfalso; omega
    · skip
      have hsw_4v : z_k.toInt = 1 := hsw_4
      have hsw_4e : z_k = 1 := Int32.toInt_inj.mp (by rw [hsw_4]; decide +kernel)
      refine lv_tableIn (pc := 1) (off := 57) (tgt := 58) E.1 E.2.1 dX11_takeDraft_1 (by rw [hsw_4e]; decide +kernel) (by rw [hsw_4e]; decide +kernel) (by rw [hsw_4e]; decide +kernel) (by decide) ?_
      exfalso; omega
    · skip
      have hsw_4v : z_k.toInt = 2 := hsw_4
      have hsw_4e : z_k = 2 := Int32.toInt_inj.mp (by rw [hsw_4]; decide +kernel)
      refine lv_tableIn (pc := 1) (off := 79) (tgt := 80) E.1 E.2.1 dX11_takeDraft_1 (by rw [hsw_4e]; decide +kernel) (by rw [hsw_4e]; decide +kernel) (by rw [hsw_4e]; decide +kernel) (by decide) ?_
      exfalso; omega
    · skip
      have hsw_4v : z_k.toInt = 3 := hsw_4
      have hsw_4e : z_k = 3 := Int32.toInt_inj.mp (by rw [hsw_4]; decide +kernel)
      refine lv_tableIn (pc := 1) (off := 105) (tgt := 106) E.1 E.2.1 dX11_takeDraft_1 (by rw [hsw_4e]; decide +kernel) (by rw [hsw_4e]; decide +kernel) (by rw [hsw_4e]; decide +kernel) (by decide) ?_
      exfalso; omega
    · skip
      have hsw_4v : z_k.toInt = 4 := hsw_4
      have hsw_4e : z_k = 4 := Int32.toInt_inj.mp (by rw [hsw_4]; decide +kernel)
      refine lv_tableIn (pc := 1) (off := 141) (tgt := 142) E.1 E.2.1 dX11_takeDraft_1 (by rw [hsw_4e]; decide +kernel) (by rw [hsw_4e]; decide +kernel) (by rw [hsw_4e]; decide +kernel) (by decide) ?_
      exfalso; omega
set_option maxHeartbeats 4000000 in
set_option maxRecDepth 100000 in
theorem t_textXa (l : Launch) (D : va_G) (cI cJ : ClassId) (sz : Nat) (mr : Nat → Nat) (mi : Nat → Int32) (mf : Nat → Nat → Int32) (mg : Nat → Nat → Int64) (z_k : Int32) (ad av : Nat → Nat) (tf : Value) (mv : Nat → Value) (h0 : 0 ≤ (mi 1).toInt ∧ (mi 1).toInt ≤ 5) (h1 : 0 ≤ (mi 2).toInt ∧ (mi 2).toInt ≤ 6) (h2 : 0 ≤ (mi 9).toInt ∧ (mi 9).toInt ≤ 10) (h3 : 0 ≤ (mi 12).toInt ∧ (mi 12).toInt ≤ 400) (h4 : 0 ≤ (mi 13).toInt ∧ (mi 13).toInt ≤ 6) (h5 : 0 ≤ (mi 18).toInt ∧ (mi 18).toInt ≤ 4) (h6 : z_k.toInt ≤ (-1)) : Met l yX11_text (Cond.code yX11_text cX11_text 3 (some .int) :: GW) ({ frames := 11, cells := 0, slots := 0, locals := 263 } : Room) (va_Pc [.ref (mr 0), .int z_k] (PW D cI cJ sz (WZ_MtextX cI cJ ad mv mr mi mf mg) (xT8 ad av tf (va_A (WZ_MtextX cI cJ ad mv mr mi mf mg) sz)))) (va_Qi (fun (r : Int32) (u : (Nat → Int32) × (Nat → Nat → Int32) × (Nat → Nat → Int64)) => (0 ≤ (u.1 1).toInt) ∧ ((u.1 1).toInt ≤ 5) ∧ (0 ≤ (u.1 2).toInt) ∧ ((u.1 2).toInt ≤ 6) ∧ (0 ≤ (u.1 9).toInt) ∧ ((u.1 9).toInt ≤ 10) ∧ (0 ≤ (u.1 12).toInt) ∧ ((u.1 12).toInt ≤ 400) ∧ (0 ≤ (u.1 13).toInt) ∧ ((u.1 13).toInt ≤ 6) ∧ (0 ≤ (u.1 18).toInt) ∧ ((u.1 18).toInt ≤ 4) ∧ ((u.1 12).toInt = 0)) (fun u => QW D cI cJ (va_A (WZ_MtextX cI cJ ad mv mr mi mf mg) sz) ((fun (u : (Nat → Int32) × (Nat → Nat → Int32) × (Nat → Nat → Int64)) => (WZ_MtextX cI cJ ad mv mr u.1 u.2.1 u.2.2)) u)) (va_A (WZ_MtextX cI cJ ad mv mr mi mf mg) sz)) 0 0 (va_A (WZ_MtextX cI cJ ad mv mr mi mf mg) sz) := by
  refine mk_metA (X := fun A => xT8 ad av tf A) (y := yX11_text) (bytes := cX11_text) (maxL := 3) (avs := [.ref (mr 0), .int z_k]) (WS := (WZ_MtextX cI cJ ad mv mr mi mf mg)) (Qf := fun A => va_Qi (fun (r : Int32) (u : (Nat → Int32) × (Nat → Nat → Int32) × (Nat → Nat → Int64)) => (0 ≤ (u.1 1).toInt) ∧ ((u.1 1).toInt ≤ 5) ∧ (0 ≤ (u.1 2).toInt) ∧ ((u.1 2).toInt ≤ 6) ∧ (0 ≤ (u.1 9).toInt) ∧ ((u.1 9).toInt ≤ 10) ∧ (0 ≤ (u.1 12).toInt) ∧ ((u.1 12).toInt ≤ 400) ∧ (0 ≤ (u.1 13).toInt) ∧ ((u.1 13).toInt ≤ 6) ∧ (0 ≤ (u.1 18).toInt) ∧ ((u.1 18).toInt ≤ 4) ∧ ((u.1 12).toInt = 0)) (fun u => QW D cI cJ A ((fun (u : (Nat → Int32) × (Nat → Nat → Int32) × (Nat → Nat → Int64)) => (WZ_MtextX cI cJ ad mv mr u.1 u.2.1 u.2.2)) u)) A) (by decide) (Nat.le_of_ble_eq_true rfl) ?_
  intro p e s m below meth c A ls E hr hlk hnm hX hw1 hl2
  have hl3 : lv_has ls 3 [(0, .ref (mr 0)), (1, .int z_k)] := hl2
  refine lv_aload_n (pc := 0) E.1 E.2.1 dX11_text_0 rfl (lv_at hl3 0 rfl) ?_
  refine x_get (pc := 1) (T := TX11) (N := 13) (ci := 11) (v := .ref (mr 3)) E hw1 inX11 0 0 q_606 rfl rfl (by decide) rfl rfl dX11_text_1 ?_
  refine x_get (pc := 4) (T := TX10) (N := 17) (ci := 10) (v := .ref (mr 8)) E hw1 inX10 1 1 q_463 rfl rfl (by decide) rfl rfl dX11_text_4 ?_
  refine x_get (pc := 7) (T := TX1) (N := 9) (ci := 1) (v := .int (mi 9)) E hw1 inX1 2 5 q_282 rfl rfl (by decide) rfl rfl dX11_text_7 ?_
  refine lv_istore_n (pc := 10) (lv' := [(2, .int (mi 9)), (0, .ref (mr 0)), (1, .int z_k)]) E.1 E.2.1 dX11_text_10 rfl hl3 (by decide) rfl (fun ls hl4 => ?_)
  refine lv_aload_n (pc := 11) E.1 E.2.1 dX11_text_11 rfl (lv_at hl4 1 rfl) ?_
  refine x_get (pc := 12) (T := TX11) (N := 13) (ci := 11) (v := .ref (mr 10)) E hw1 inX11 0 2 q_608 rfl rfl (by decide) rfl rfl dX11_text_12 ?_
  refine lv_iload_n (pc := 15) E.1 E.2.1 dX11_text_15 rfl (lv_at hl4 2 rfl) ?_
  refine cq_v (pc := 16) (ws' := (fun (u : Int32 × Int32 × Int32 × Int32 × Int32 × Int32 × Int32) => (WZ_MtextX cI cJ ad mv mr (upd (upd (upd (upd (upd (upd (upd mi 13 u.2.2.2.2.1) 14 u.1) 15 u.2.2.1) 16 u.2.2.2.1) 17 u.2.1) 18 u.2.2.2.2.2.1) 19 u.2.2.2.2.2.2) mf mg))) hw1 [3, 4] [0, 1, 2] [0, 1, 2, 3, 4] rfl rfl (by decide) (by decide) (fun _ => rfl) (by decide) (rn_V (As := [.int z_k]) (rest := []) E hw1 (t_open l D cI cJ _ (ixf [10, 11, 12, 13, 14, 15, 16, 17, 18, 19] mr) (ixf [10, 11, 12, 13, 14, 15, 16, 17, 18, 19] mi) (ixf [10, 11, 12, 13, 14, 15, 16, 17, 18, 19] mf) (ixf [10, 11, 12, 13, 14, 15, 16, 17, 18, 19] mg) z_k ad av tf (by show 0 ≤ (mi 12).toInt ∧ (mi 12).toInt ≤ 400; omega)) (gdV q_710 q_711 q_712 q_160 q_713) hdV_X8_open ⟨rfl, rfl⟩ ⟨(Nat.le_of_ble_eq_true rfl), (Nat.le_of_ble_eq_true rfl)⟩ ⟨(Nat.le_of_ble_eq_true rfl), (Nat.le_of_ble_eq_true rfl)⟩ xT8_b (xT8_at hX hw1.2.2.1 (va_free hw1.2.1 hw1.2.2.1 hw1.2.2.2 [3, 4] rfl)) 3 8 rfl rfl rfl [3, 4] rfl (by decide) rfl hl4.1 rfl (Nat.le_of_ble_eq_true rfl) dX11_text_16) (fun u_5 H1 locs hp hw7 => ?_)
  obtain ⟨nat_8, nplace_9, nkind_10, nvalue_11, nwords_12, nfault_13, nfaultPlace_14⟩ := u_5
  generalize H1 = H at hw7 ⊢
  have hw15 : WD D A s.heap (WZ_MtextX cI cJ ad mv mr (upd (upd (upd (upd (upd (upd (upd mi 13 nwords_12) 14 nat_8) 15 nkind_10) 16 nvalue_11) 17 nplace_9) 18 nfault_13) 19 nfaultPlace_14) mf mg) H locs := hw7
  obtain ⟨hp_16, hp_17, hp_18, hp_19, hp_20⟩ := hp
  have hp_16 : 0 ≤ nat_8.toInt := hp_16
  have hp_17 : nat_8.toInt ≤ (mi 12).toInt := hp_17
  have hp_18 : 0 ≤ nwords_12.toInt := hp_18
  have hp_19 : nwords_12.toInt ≤ 6 := hp_19
  have hp_20 : nfault_13.toInt = 0 := hp_20
  refine lv_iload_n (pc := 19) E.1 E.2.1 dX11_text_19 rfl (lv_at hl4 2 rfl) ?_
  rcases swt (x := z_k) 0 4 with hsw_21 | ⟨hsw_21k, hsw_211, hsw_212, hsw_21⟩
  · skip
    refine lv_tableOut (pc := 20) (tgt := 115) E.1 E.2.1 dX11_text_20 hsw_21 (by decide) ?_
    refine lv_aload_n (pc := 115) E.1 E.2.1 dX11_text_115 rfl (lv_at hl4 1 rfl) ?_
    refine x_get (pc := 116) (T := TX11) (N := 13) (ci := 11) (v := .ref (mr 10)) E hw15 inX11 0 2 q_608 rfl rfl (by decide) rfl rfl dX11_text_116 ?_
    refine lv_iconst (pc := 119) (v := 0) E.1 E.2.1 dX11_text_119 (by decide +kernel) ?_
    refine x_put (pc := 120) (T := TX8) (N := 9) (ci := 8) (ws' := (WZ_MtextX cI cJ ad mv mr (upd (upd (upd (upd (upd (upd (upd (upd mi 12 0) 13 nwords_12) 14 nat_8) 15 nkind_10) 16 nvalue_11) 17 nplace_9) 18 nfault_13) 19 nfaultPlace_14) mf mg)) E hw15 inX8 tyX8_ok nmX8 3 1 q_539 rfl rfl (by decide) rfl rfl rfl rfl (Nat.le_of_ble_eq_true rfl) rfl dX11_text_120 (fun H locs hw22 => ?_)
    refine lv_aload_n (pc := 123) E.1 E.2.1 dX11_text_123 rfl (lv_at hl4 1 rfl) ?_
    refine x_get (pc := 124) (T := TX11) (N := 13) (ci := 11) (v := .ref (mr 10)) E hw22 inX11 0 2 q_608 rfl rfl (by decide) rfl rfl dX11_text_124 ?_
    refine x_get (pc := 127) (T := TX8) (N := 9) (ci := 8) (v := .int nfault_13) E hw22 inX8 3 7 q_555 rfl rfl (by decide) rfl rfl dX11_text_127 ?_
    refine lv_if_ne (pc := 130) (tgt := 141) E.1 E.2.1 dX11_text_130 (by decide) (fun c_23 => absurd (meqE (a := nfault_13.toInt) (b := 0) rfl (by decide +kernel) (by omega)) c_23) (fun _ => ?_)
    refine lv_aload_n (pc := 133) E.1 E.2.1 dX11_text_133 rfl (lv_at hl4 1 rfl) ?_
    refine lv_iload_n (pc := 134) E.1 E.2.1 dX11_text_134 rfl (lv_at hl4 2 rfl) ?_
    refine cq_i (pc := 135) (ws' := (fun (u : (Nat → Int32) × (Nat → Nat → Int32) × (Nat → Nat → Int64)) => (WZ_MtextX cI cJ ad mv mr (upd (upd (upd (upd (upd (upd (upd (upd (upd (upd (upd (upd (upd (upd (upd mi 1 (u.1 1)) 2 (u.1 2)) 4 (u.1 4)) 5 (u.1 5)) 6 (u.1 6)) 7 (u.1 7)) 9 (u.1 9)) 12 (u.1 12)) 13 (u.1 13)) 14 (u.1 14)) 15 (u.1 15)) 16 (u.1 16)) 17 (u.1 17)) 18 (u.1 18)) 19 (u.1 19)) (va_up mf 11 (u.2.1 11)) mg))) hw22 [0, 1, 2, 3, 4] [] [0, 1, 2, 3, 4] rfl rfl (by decide) (by decide) (fun _ => rfl) (by decide) (rn_V (As := [.int z_k]) (rest := []) E hw22 (t_takeXa l D cI cJ _ (ixf [0, 1, 2, 3, 4, 5, 6, 7, 8, 9, 10, 11, 12, 13, 14, 15, 16, 17, 18, 19] mr) (ixf [0, 1, 2, 3, 4, 5, 6, 7, 8, 9, 10, 11, 12, 13, 14, 15, 16, 17, 18, 19] (upd (upd (upd (upd (upd (upd (upd (upd mi 12 0) 13 nwords_12) 14 nat_8) 15 nkind_10) 16 nvalue_11) 17 nplace_9) 18 nfault_13) 19 nfaultPlace_14)) (ixf [0, 1, 2, 3, 4, 5, 6, 7, 8, 9, 10, 11, 12, 13, 14, 15, 16, 17, 18, 19] mf) (ixf [0, 1, 2, 3, 4, 5, 6, 7, 8, 9, 10, 11, 12, 13, 14, 15, 16, 17, 18, 19] mg) z_k ad (vl [mv 0, mv 1, mv 2, mv 3, mv 4, mv 5, mv 6, mv 7, mv 8, mv 9, mv 10, mv 11, mv 12, mv 13, mv 14, mv 15, mv 16, mv 17, mv 18, mv 19, mv 20, mv 21, mv 22, mv 23, mv 24, mv 25, mv 26, mv 27, mv 28]) (by show 0 ≤ (mi 1).toInt ∧ (mi 1).toInt ≤ 5; omega) (by show 0 ≤ (mi 2).toInt ∧ (mi 2).toInt ≤ 6; omega) (by show 0 ≤ (mi 9).toInt ∧ (mi 9).toInt ≤ 10; omega) (by show 0 ≤ (0 : Int32).toInt ∧ (0 : Int32).toInt ≤ 400; have k_0 : (0 : Int32).toInt = 0 := (by decide +kernel); omega) (by show 0 ≤ nwords_12.toInt ∧ nwords_12.toInt ≤ 6; omega) (by show 0 ≤ nfault_13.toInt ∧ nfault_13.toInt ≤ 4; omega) (by show z_k.toInt ≤ (-1); omega)) (gdV q_957 q_959 q_18 q_151 q_960) hdV_X11_takeDraft ⟨rfl, rfl⟩ ⟨(Nat.le_of_ble_eq_true rfl), (Nat.le_of_ble_eq_true rfl)⟩ ⟨(Nat.le_of_ble_eq_true rfl), (Nat.le_of_ble_eq_true rfl)⟩ xT_b xT_at 0 11 rfl rfl rfl [0, 1, 2, 3, 4] rfl (by decide) rfl hl4.1 rfl (Nat.le_of_ble_eq_true rfl) dX11_text_135) (fun r_25 u_24 H1 locs hp hw26 => ?_)
    obtain ⟨Mi_27, Mf_28, Mg_29⟩ := u_24
    generalize H1 = H at hw26 ⊢
    have hw30 : WD D A s.heap (WZ_MtextX cI cJ ad mv mr (upd (upd (upd (upd (upd (upd (upd (upd (upd (upd (upd (upd (upd (upd (upd mi 1 (Mi_27 1)) 2 (Mi_27 2)) 4 (Mi_27 4)) 5 (Mi_27 5)) 6 (Mi_27 6)) 7 (Mi_27 7)) 9 (Mi_27 9)) 12 (Mi_27 12)) 13 (Mi_27 13)) 14 (Mi_27 14)) 15 (Mi_27 15)) 16 (Mi_27 16)) 17 (Mi_27 17)) 18 (Mi_27 18)) 19 (Mi_27 19)) (va_up mf 11 (Mf_28 11)) mg) H locs := hw26
    obtain ⟨hp_31, hp_32, hp_33, hp_34, hp_35, hp_36, hp_37, hp_38, hp_39, hp_40, hp_41, hp_42, hp_43⟩ := hp
    have hp_31 : 0 ≤ (Mi_27 1).toInt := hp_31
    have hp_32 : (Mi_27 1).toInt ≤ 5 := hp_32
    have hp_33 : 0 ≤ (Mi_27 2).toInt := hp_33
    have hp_34 : (Mi_27 2).toInt ≤ 6 := hp_34
    have hp_35 : 0 ≤ (Mi_27 9).toInt := hp_35
    have hp_36 : (Mi_27 9).toInt ≤ 10 := hp_36
    have hp_37 : 0 ≤ (Mi_27 12).toInt := hp_37
    have hp_38 : (Mi_27 12).toInt ≤ 400 := hp_38
    have hp_39 : 0 ≤ (Mi_27 13).toInt := hp_39
    have hp_40 : (Mi_27 13).toInt ≤ 6 := hp_40
    have hp_41 : 0 ≤ (Mi_27 18).toInt := hp_41
    have hp_42 : (Mi_27 18).toInt ≤ 4 := hp_42
    have hp_43 : (Mi_27 12).toInt = (0 : Int32).toInt := hp_43
    rw [show (0 : Int32).toInt = 0 from by decide +kernel] at hp_43
    refine lv_goto (pc := 138) (tgt := 142) E.1 E.2.1 dX11_text_138 (by decide) ?_
    exact em_i (w1 := (fun (u : (Nat → Int32) × (Nat → Nat → Int32) × (Nat → Nat → Int64)) => (WZ_MtextX cI cJ ad mv mr u.1 u.2.1 u.2.2))) E hr hlk ((upd (upd (upd (upd (upd (upd (upd (upd (upd (upd (upd (upd (upd (upd (upd mi 1 (Mi_27 1)) 2 (Mi_27 2)) 4 (Mi_27 4)) 5 (Mi_27 5)) 6 (Mi_27 6)) 7 (Mi_27 7)) 9 (Mi_27 9)) 12 (Mi_27 12)) 13 (Mi_27 13)) 14 (Mi_27 14)) 15 (Mi_27 15)) 16 (Mi_27 16)) 17 (Mi_27 17)) 18 (Mi_27 18)) 19 (Mi_27 19)), (va_up mf 11 (Mf_28 11)), mg) hw30 ⟨(by show 0 ≤ (Mi_27 1).toInt; omega), (by show (Mi_27 1).toInt ≤ 5; omega), (by show 0 ≤ (Mi_27 2).toInt; omega), (by show (Mi_27 2).toInt ≤ 6; omega), (by show 0 ≤ (Mi_27 9).toInt; omega), (by show (Mi_27 9).toInt ≤ 10; omega), (by show 0 ≤ (Mi_27 12).toInt; omega), (by show (Mi_27 12).toInt ≤ 400; omega), (by show 0 ≤ (Mi_27 13).toInt; omega), (by show (Mi_27 13).toInt ≤ 6; omega), (by show 0 ≤ (Mi_27 18).toInt; omega), (by show (Mi_27 18).toInt ≤ 4; omega), (by show (Mi_27 12).toInt = 0; omega)⟩ (Nat.le_of_ble_eq_true rfl) (Nat.le_of_ble_eq_true rfl) dX11_text_142
  · skip
    rcases (show hsw_21k = 0 ∨ hsw_21k = 1 ∨ hsw_21k = 2 ∨ hsw_21k = 3 ∨ hsw_21k = 4 from by omega) with rfl | rfl | rfl | rfl | rfl
    · skip
      have hsw_21v : z_k.toInt = 0 := hsw_21
      have hsw_21e : z_k = 0 := Int32.toInt_inj.mp (by rw [hsw_21]; decide +kernel)
      refine lv_tableIn (pc := 20) (off := 36) (tgt := 56) E.1 E.2.1 dX11_text_20 (by rw [hsw_21e]; decide +kernel) (by rw [hsw_21e]; decide +kernel) (by rw [hsw_21e]; decide +kernel) (by decide) ?_
      exfalso; omega
    · skip
      have hsw_21v : z_k.toInt = 1 := hsw_21
      have hsw_21e : z_k = 1 := Int32.toInt_inj.mp (by rw [hsw_21]; decide +kernel)
      refine lv_tableIn (pc := 20) (off := 36) (tgt := 56) E.1 E.2.1 dX11_text_20 (by rw [hsw_21e]; decide +kernel) (by rw [hsw_21e]; decide +kernel) (by rw [hsw_21e]; decide +kernel) (by decide) ?_
      exfalso; omega
    · skip
      have hsw_21v : z_k.toInt = 2 := hsw_21
      have hsw_21e : z_k = 2 := Int32.toInt_inj.mp (by rw [hsw_21]; decide +kernel)
      refine lv_tableIn (pc := 20) (off := 50) (tgt := 70) E.1 E.2.1 dX11_text_20 (by rw [hsw_21e]; decide +kernel) (by rw [hsw_21e]; decide +kernel) (by rw [hsw_21e]; decide +kernel) (by decide) ?_
      exfalso; omega
    · skip
      have hsw_21v : z_k.toInt = 3 := hsw_21
      have hsw_21e : z_k = 3 := Int32.toInt_inj.mp (by rw [hsw_21]; decide +kernel)
      refine lv_tableIn (pc := 20) (off := 65) (tgt := 85) E.1 E.2.1 dX11_text_20 (by rw [hsw_21e]; decide +kernel) (by rw [hsw_21e]; decide +kernel) (by rw [hsw_21e]; decide +kernel) (by decide) ?_
      exfalso; omega
    · skip
      have hsw_21v : z_k.toInt = 4 := hsw_21
      have hsw_21e : z_k = 4 := Int32.toInt_inj.mp (by rw [hsw_21]; decide +kernel)
      refine lv_tableIn (pc := 20) (off := 80) (tgt := 100) E.1 E.2.1 dX11_text_20 (by rw [hsw_21e]; decide +kernel) (by rw [hsw_21e]; decide +kernel) (by rw [hsw_21e]; decide +kernel) (by decide) ?_
      exfalso; omega
set_option maxHeartbeats 4000000 in
set_option maxRecDepth 100000 in
theorem t_takeXb (l : Launch) (D : va_G) (cI cJ : ClassId) (sz : Nat) (mr : Nat → Nat) (mi : Nat → Int32) (mf : Nat → Nat → Int32) (mg : Nat → Nat → Int64) (z_k : Int32) (ad : Nat → Nat) (mv : Nat → Value) (h0 : 0 ≤ (mi 1).toInt ∧ (mi 1).toInt ≤ 5) (h1 : 0 ≤ (mi 2).toInt ∧ (mi 2).toInt ≤ 6) (h2 : 0 ≤ (mi 9).toInt ∧ (mi 9).toInt ≤ 10) (h3 : 0 ≤ (mi 12).toInt ∧ (mi 12).toInt ≤ 400) (h4 : 0 ≤ (mi 13).toInt ∧ (mi 13).toInt ≤ 6) (h5 : 0 ≤ (mi 18).toInt ∧ (mi 18).toInt ≤ 4) (h6 : 5 ≤ z_k.toInt) : Met l yX11_takeDraft (Cond.code yX11_takeDraft cX11_takeDraft 2 (some .int) :: GW) ({ frames := 3, cells := 0, slots := 0, locals := 82 } : Room) (va_Pc [.ref (mr 0), .int z_k] (PW D cI cJ sz (WZ_MtextX cI cJ ad mv mr mi mf mg) xT)) (va_Qi (fun (r : Int32) (u : (Nat → Int32) × (Nat → Nat → Int32) × (Nat → Nat → Int64)) => (0 ≤ (u.1 1).toInt) ∧ ((u.1 1).toInt ≤ 5) ∧ (0 ≤ (u.1 2).toInt) ∧ ((u.1 2).toInt ≤ 6) ∧ (0 ≤ (u.1 9).toInt) ∧ ((u.1 9).toInt ≤ 10) ∧ (0 ≤ (u.1 12).toInt) ∧ ((u.1 12).toInt ≤ 400) ∧ (0 ≤ (u.1 13).toInt) ∧ ((u.1 13).toInt ≤ 6) ∧ (0 ≤ (u.1 18).toInt) ∧ ((u.1 18).toInt ≤ 4) ∧ ((u.1 12).toInt = (mi 12).toInt)) (fun u => QW D cI cJ (va_A (WZ_MtextX cI cJ ad mv mr mi mf mg) sz) ((fun (u : (Nat → Int32) × (Nat → Nat → Int32) × (Nat → Nat → Int64)) => (WZ_MtextX cI cJ ad mv mr u.1 u.2.1 u.2.2)) u)) (va_A (WZ_MtextX cI cJ ad mv mr mi mf mg) sz)) 0 0 (va_A (WZ_MtextX cI cJ ad mv mr mi mf mg) sz) := by
  refine mk_met (y := yX11_takeDraft) (bytes := cX11_takeDraft) (maxL := 2) (avs := [.ref (mr 0), .int z_k]) (WS := (WZ_MtextX cI cJ ad mv mr mi mf mg)) (Qf := fun A => va_Qi (fun (r : Int32) (u : (Nat → Int32) × (Nat → Nat → Int32) × (Nat → Nat → Int64)) => (0 ≤ (u.1 1).toInt) ∧ ((u.1 1).toInt ≤ 5) ∧ (0 ≤ (u.1 2).toInt) ∧ ((u.1 2).toInt ≤ 6) ∧ (0 ≤ (u.1 9).toInt) ∧ ((u.1 9).toInt ≤ 10) ∧ (0 ≤ (u.1 12).toInt) ∧ ((u.1 12).toInt ≤ 400) ∧ (0 ≤ (u.1 13).toInt) ∧ ((u.1 13).toInt ≤ 6) ∧ (0 ≤ (u.1 18).toInt) ∧ ((u.1 18).toInt ≤ 4) ∧ ((u.1 12).toInt = (mi 12).toInt)) (fun u => QW D cI cJ A ((fun (u : (Nat → Int32) × (Nat → Nat → Int32) × (Nat → Nat → Int64)) => (WZ_MtextX cI cJ ad mv mr u.1 u.2.1 u.2.2)) u)) A) (by decide) (Nat.le_of_ble_eq_true rfl) ?_
  intro p e s m below meth c A ls E hr hlk hnm hX hw1 hl2
  have hl3 : lv_has ls 2 [(0, .ref (mr 0)), (1, .int z_k)] := hl2
  refine lv_iload_n (pc := 0) E.1 E.2.1 dX11_takeDraft_0 rfl (lv_at hl3 1 rfl) ?_
  rcases swt (x := z_k) 0 4 with hsw_4 | ⟨hsw_4k, hsw_41, hsw_42, hsw_4⟩
  · skip
    refine lv_tableOut (pc := 1) (tgt := 179) E.1 E.2.1 dX11_takeDraft_1 hsw_4 (by decide) ?_
    refine lv_iconst (pc := 179) (v := (-1)) E.1 E.2.1 dX11_takeDraft_179 (by decide +kernel) ?_
    exact em_i (w1 := (fun (u : (Nat → Int32) × (Nat → Nat → Int32) × (Nat → Nat → Int64)) => (WZ_MtextX cI cJ ad mv mr u.1 u.2.1 u.2.2))) E hr hlk (mi, mf, mg) hw1 ⟨(by show 0 ≤ (mi 1).toInt; have k_0 : ((-1) : Int32).toInt = -1 := (by decide +kernel); omega), (by show (mi 1).toInt ≤ 5; have k_0 : ((-1) : Int32).toInt = -1 := (by decide +kernel); omega), (by show 0 ≤ (mi 2).toInt; have k_0 : ((-1) : Int32).toInt = -1 := (by decide +kernel); omega), (by show (mi 2).toInt ≤ 6; have k_0 : ((-1) : Int32).toInt = -1 := (by decide +kernel); omega), (by show 0 ≤ (mi 9).toInt; have k_0 : ((-1) : Int32).toInt = -1 := (by decide +kernel); omega), (by show (mi 9).toInt ≤ 10; have k_0 : ((-1) : Int32).toInt = -1 := (by decide +kernel); omega), (by show 0 ≤ (mi 12).toInt; have k_0 : ((-1) : Int32).toInt = -1 := (by decide +kernel); omega), (by show (mi 12).toInt ≤ 400; have k_0 : ((-1) : Int32).toInt = -1 := (by decide +kernel); omega), (by show 0 ≤ (mi 13).toInt; have k_0 : ((-1) : Int32).toInt = -1 := (by decide +kernel); omega), (by show (mi 13).toInt ≤ 6; have k_0 : ((-1) : Int32).toInt = -1 := (by decide +kernel); omega), (by show 0 ≤ (mi 18).toInt; have k_0 : ((-1) : Int32).toInt = -1 := (by decide +kernel); omega), (by show (mi 18).toInt ≤ 4; have k_0 : ((-1) : Int32).toInt = -1 := (by decide +kernel); omega), (by show (mi 12).toInt = (mi 12).toInt; have k_0 : ((-1) : Int32).toInt = -1 := (by decide +kernel); omega)⟩ (Nat.le_of_ble_eq_true rfl) (Nat.le_of_ble_eq_true rfl) dX11_takeDraft_180
  · skip
    rcases (show hsw_4k = 0 ∨ hsw_4k = 1 ∨ hsw_4k = 2 ∨ hsw_4k = 3 ∨ hsw_4k = 4 from by omega) with rfl | rfl | rfl | rfl | rfl
    · skip
      have hsw_4v : z_k.toInt = 0 := hsw_4
      have hsw_4e : z_k = 0 := Int32.toInt_inj.mp (by rw [hsw_4]; decide +kernel)
      refine lv_tableIn (pc := 1) (off := 35) (tgt := 36) E.1 E.2.1 dX11_takeDraft_1 (by rw [hsw_4e]; decide +kernel) (by rw [hsw_4e]; decide +kernel) (by rw [hsw_4e]; decide +kernel) (by decide) ?_
      exfalso; omega
    · skip
      have hsw_4v : z_k.toInt = 1 := hsw_4
      have hsw_4e : z_k = 1 := Int32.toInt_inj.mp (by rw [hsw_4]; decide +kernel)
      refine lv_tableIn (pc := 1) (off := 57) (tgt := 58) E.1 E.2.1 dX11_takeDraft_1 (by rw [hsw_4e]; decide +kernel) (by rw [hsw_4e]; decide +kernel) (by rw [hsw_4e]; decide +kernel) (by decide) ?_
      exfalso; omega
    · skip
      have hsw_4v : z_k.toInt = 2 := hsw_4
      have hsw_4e : z_k = 2 := Int32.toInt_inj.mp (by rw [hsw_4]; decide +kernel)
      refine lv_tableIn (pc := 1) (off := 79) (tgt := 80) E.1 E.2.1 dX11_takeDraft_1 (by rw [hsw_4e]; decide +kernel) (by rw [hsw_4e]; decide +kernel) (by rw [hsw_4e]; decide +kernel) (by decide) ?_
      exfalso; omega
    · skip
      have hsw_4v : z_k.toInt = 3 := hsw_4
      have hsw_4e : z_k = 3 := Int32.toInt_inj.mp (by rw [hsw_4]; decide +kernel)
      refine lv_tableIn (pc := 1) (off := 105) (tgt := 106) E.1 E.2.1 dX11_takeDraft_1 (by rw [hsw_4e]; decide +kernel) (by rw [hsw_4e]; decide +kernel) (by rw [hsw_4e]; decide +kernel) (by decide) ?_
      exfalso; omega
    · skip
      have hsw_4v : z_k.toInt = 4 := hsw_4
      have hsw_4e : z_k = 4 := Int32.toInt_inj.mp (by rw [hsw_4]; decide +kernel)
      refine lv_tableIn (pc := 1) (off := 141) (tgt := 142) E.1 E.2.1 dX11_takeDraft_1 (by rw [hsw_4e]; decide +kernel) (by rw [hsw_4e]; decide +kernel) (by rw [hsw_4e]; decide +kernel) (by decide) ?_
      exfalso; omega
