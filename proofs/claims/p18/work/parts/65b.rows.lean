set_option maxHeartbeats 4000000 in
set_option maxRecDepth 100000 in
theorem t_canEncode (l : Launch) (D : va_G) (cI cJ : ClassId) (sz : Nat) (mr : Nat → Nat) (mi : Nat → Int32) (mf : Nat → Nat → Int32) (mg : Nat → Nat → Int64) (z_cp : Int32)  : Met l yJ1_canEncode_9a6ad (Cond.code yJ1_canEncode_9a6ad cJ1_canEncode_9a6ad 1 (some .boolean) :: GW) ({ frames := 1, cells := 0, slots := 0, locals := 40 } : Room) (va_Pc [.int z_cp] (PW D cI cJ sz (WZ_Es cI cJ mr mi mf mg) xT)) (va_Qi (fun (r : Int32) (u : Unit) => (0 ≤ r.toInt) ∧ (r.toInt ≤ 1)) (fun u => QW D cI cJ (va_A (WZ_Es cI cJ mr mi mf mg) sz) ((fun (u : Unit) => (WZ_Es cI cJ mr mi mf mg)) u)) (va_A (WZ_Es cI cJ mr mi mf mg) sz)) 0 0 (va_A (WZ_Es cI cJ mr mi mf mg) sz) := by
  refine mk_met (y := yJ1_canEncode_9a6ad) (bytes := cJ1_canEncode_9a6ad) (maxL := 1) (avs := [.int z_cp]) (WS := (WZ_Es cI cJ mr mi mf mg)) (Qf := fun A => va_Qi (fun (r : Int32) (u : Unit) => (0 ≤ r.toInt) ∧ (r.toInt ≤ 1)) (fun u => QW D cI cJ A ((fun (u : Unit) => (WZ_Es cI cJ mr mi mf mg)) u)) A) (by decide) (Nat.le_of_ble_eq_true rfl) ?_
  intro p e s m below meth c A ls E hr hlk hnm hX hw1 hl2
  have hl3 : lv_has ls 1 [(0, .int z_cp)] := hl2
  refine lv_iload_n (pc := 0) E.1 E.2.1 dJ1_canEncode_9a6ad_0 rfl (lv_at hl3 0 rfl) ?_
  refine lv_if_lt (pc := 1) (tgt := 15) E.1 E.2.1 dJ1_canEncode_9a6ad_1 (by decide) (fun c_4 => ?_) (fun c_4 => ?_)
  · skip
    have hc_4 := ltE (a := z_cp.toInt) (b := 0) rfl (by decide +kernel) c_4
    refine lv_iconst (pc := 15) (v := 0) E.1 E.2.1 dJ1_canEncode_9a6ad_15 (by decide +kernel) ?_
    exact em_z (w1 := (fun (u : Unit) => (WZ_Es cI cJ mr mi mf mg))) E hr hlk () hw1 ⟨(by show 0 ≤ (0 : Int32).toInt; have k_0 : (0 : Int32).toInt = 0 := (by decide +kernel); omega), (by show (0 : Int32).toInt ≤ 1; have k_0 : (0 : Int32).toInt = 0 := (by decide +kernel); omega)⟩ (by decide +kernel) (Nat.le_of_ble_eq_true rfl) (Nat.le_of_ble_eq_true rfl) dJ1_canEncode_9a6ad_16
  · skip
    have hc_4 := nltE (a := z_cp.toInt) (b := 0) rfl (by decide +kernel) c_4
    refine lv_iload_n (pc := 4) E.1 E.2.1 dJ1_canEncode_9a6ad_4 rfl (lv_at hl3 0 rfl) ?_
    refine lv_sipush (pc := 5) (v := 255) E.1 E.2.1 dJ1_canEncode_9a6ad_5 (by decide +kernel) ?_
    refine lv_icmp_gt (pc := 8) (tgt := 15) E.1 E.2.1 dJ1_canEncode_9a6ad_8 (by decide) (fun c_5 => ?_) (fun c_5 => ?_)
    · skip
      have hc_5 := ltE (a := 255) (b := z_cp.toInt) (by decide +kernel) rfl c_5
      refine lv_iconst (pc := 15) (v := 0) E.1 E.2.1 dJ1_canEncode_9a6ad_15 (by decide +kernel) ?_
      exact em_z (w1 := (fun (u : Unit) => (WZ_Es cI cJ mr mi mf mg))) E hr hlk () hw1 ⟨(by show 0 ≤ (0 : Int32).toInt; have k_0 : (0 : Int32).toInt = 0 := (by decide +kernel); omega), (by show (0 : Int32).toInt ≤ 1; have k_0 : (0 : Int32).toInt = 0 := (by decide +kernel); omega)⟩ (by decide +kernel) (Nat.le_of_ble_eq_true rfl) (Nat.le_of_ble_eq_true rfl) dJ1_canEncode_9a6ad_16
    · skip
      have hc_5 := nltE (a := 255) (b := z_cp.toInt) (by decide +kernel) rfl c_5
      refine lv_iconst (pc := 11) (v := 1) E.1 E.2.1 dJ1_canEncode_9a6ad_11 (by decide +kernel) ?_
      refine lv_goto (pc := 12) (tgt := 16) E.1 E.2.1 dJ1_canEncode_9a6ad_12 (by decide) ?_
      exact em_z (w1 := (fun (u : Unit) => (WZ_Es cI cJ mr mi mf mg))) E hr hlk () hw1 ⟨(by show 0 ≤ (1 : Int32).toInt; have k_0 : (1 : Int32).toInt = 1 := (by decide +kernel); omega), (by show (1 : Int32).toInt ≤ 1; have k_0 : (1 : Int32).toInt = 1 := (by decide +kernel); omega)⟩ (by decide +kernel) (Nat.le_of_ble_eq_true rfl) (Nat.le_of_ble_eq_true rfl) dJ1_canEncode_9a6ad_16
set_option maxHeartbeats 4000000 in
set_option maxRecDepth 100000 in
theorem t_checkIndexP (l : Launch) (D : va_G) (cI cJ : ClassId) (sz : Nat) (mr : Nat → Nat) (mi : Nat → Int32) (mf : Nat → Nat → Int32) (mg : Nat → Nat → Int64) (z_index : Int32) (z_length : Int32) (z_f : Nat) (h0 : 0 ≤ z_index.toInt) (h1 : z_index.toInt + 1 ≤ z_length.toInt) : Met l yJ3_checkIndex_8e157 (Cond.code yJ3_checkIndex_8e157 cJ3_checkIndex_8e157 3 (some .int) :: GW) ({ frames := 1, cells := 0, slots := 0, locals := 40 } : Room) (va_Pc [.int z_index, .int z_length, .ref z_f] (PW D cI cJ sz (WZ_Es cI cJ mr mi mf mg) xT)) (va_Qi (fun (r : Int32) (u : Unit) => True) (fun u => QW D cI cJ (va_A (WZ_Es cI cJ mr mi mf mg) sz) ((fun (u : Unit) => (WZ_Es cI cJ mr mi mf mg)) u)) (va_A (WZ_Es cI cJ mr mi mf mg) sz)) 0 0 (va_A (WZ_Es cI cJ mr mi mf mg) sz) := by
  refine mk_met (y := yJ3_checkIndex_8e157) (bytes := cJ3_checkIndex_8e157) (maxL := 3) (avs := [.int z_index, .int z_length, .ref z_f]) (WS := (WZ_Es cI cJ mr mi mf mg)) (Qf := fun A => va_Qi (fun (r : Int32) (u : Unit) => True) (fun u => QW D cI cJ A ((fun (u : Unit) => (WZ_Es cI cJ mr mi mf mg)) u)) A) (by decide) (Nat.le_of_ble_eq_true rfl) ?_
  intro p e s m below meth c A ls E hr hlk hnm hX hw1 hl2
  have hl3 : lv_has ls 3 [(0, .int z_index), (1, .int z_length), (2, .ref z_f)] := hl2
  refine lv_iload_n (pc := 0) E.1 E.2.1 dJ3_checkIndex_8e157_0 rfl (lv_at hl3 0 rfl) ?_
  refine lv_if_lt (pc := 1) (tgt := 9) E.1 E.2.1 dJ3_checkIndex_8e157_1 (by decide) (fun c_4 => absurd c_4 (mnltE (a := z_index.toInt) (b := 0) rfl (by decide +kernel) (by omega))) (fun _ => ?_)
  refine lv_iload_n (pc := 4) E.1 E.2.1 dJ3_checkIndex_8e157_4 rfl (lv_at hl3 0 rfl) ?_
  refine lv_iload_n (pc := 5) E.1 E.2.1 dJ3_checkIndex_8e157_5 rfl (lv_at hl3 1 rfl) ?_
  refine lv_icmp_lt (pc := 6) (tgt := 16) E.1 E.2.1 dJ3_checkIndex_8e157_6 (by decide) (fun _ => ?_) (fun c_5 => absurd (mltE (a := z_index.toInt) (b := z_length.toInt) rfl rfl (by omega)) c_5)
  refine lv_iload_n (pc := 16) E.1 E.2.1 dJ3_checkIndex_8e157_16 rfl (lv_at hl3 0 rfl) ?_
  exact em_i (w1 := (fun (u : Unit) => (WZ_Es cI cJ mr mi mf mg))) E hr hlk () hw1 trivial (Nat.le_of_ble_eq_true rfl) (Nat.le_of_ble_eq_true rfl) dJ3_checkIndex_8e157_17
set_option maxHeartbeats 4000000 in
set_option maxRecDepth 100000 in
theorem t_checkIndexN (l : Launch) (D : va_G) (cI cJ : ClassId) (sz : Nat) (mr : Nat → Nat) (mi : Nat → Int32) (mf : Nat → Nat → Int32) (mg : Nat → Nat → Int64) (z_index : Int32) (z_length : Int32) (h0 : 0 ≤ z_index.toInt) (h1 : z_index.toInt + 1 ≤ z_length.toInt) : Met l yJ3_checkIndex_8e157 (Cond.code yJ3_checkIndex_8e157 cJ3_checkIndex_8e157 3 (some .int) :: GW) ({ frames := 1, cells := 0, slots := 0, locals := 40 } : Room) (va_Pc [.int z_index, .int z_length, .null] (PW D cI cJ sz (WZ_Es cI cJ mr mi mf mg) xT)) (va_Qi (fun (r : Int32) (u : Unit) => True) (fun u => QW D cI cJ (va_A (WZ_Es cI cJ mr mi mf mg) sz) ((fun (u : Unit) => (WZ_Es cI cJ mr mi mf mg)) u)) (va_A (WZ_Es cI cJ mr mi mf mg) sz)) 0 0 (va_A (WZ_Es cI cJ mr mi mf mg) sz) := by
  refine mk_met (y := yJ3_checkIndex_8e157) (bytes := cJ3_checkIndex_8e157) (maxL := 3) (avs := [.int z_index, .int z_length, .null]) (WS := (WZ_Es cI cJ mr mi mf mg)) (Qf := fun A => va_Qi (fun (r : Int32) (u : Unit) => True) (fun u => QW D cI cJ A ((fun (u : Unit) => (WZ_Es cI cJ mr mi mf mg)) u)) A) (by decide) (Nat.le_of_ble_eq_true rfl) ?_
  intro p e s m below meth c A ls E hr hlk hnm hX hw1 hl2
  have hl3 : lv_has ls 3 [(0, .int z_index), (1, .int z_length), (2, .null)] := hl2
  refine lv_iload_n (pc := 0) E.1 E.2.1 dJ3_checkIndex_8e157_0 rfl (lv_at hl3 0 rfl) ?_
  refine lv_if_lt (pc := 1) (tgt := 9) E.1 E.2.1 dJ3_checkIndex_8e157_1 (by decide) (fun c_4 => absurd c_4 (mnltE (a := z_index.toInt) (b := 0) rfl (by decide +kernel) (by omega))) (fun _ => ?_)
  refine lv_iload_n (pc := 4) E.1 E.2.1 dJ3_checkIndex_8e157_4 rfl (lv_at hl3 0 rfl) ?_
  refine lv_iload_n (pc := 5) E.1 E.2.1 dJ3_checkIndex_8e157_5 rfl (lv_at hl3 1 rfl) ?_
  refine lv_icmp_lt (pc := 6) (tgt := 16) E.1 E.2.1 dJ3_checkIndex_8e157_6 (by decide) (fun _ => ?_) (fun c_5 => absurd (mltE (a := z_index.toInt) (b := z_length.toInt) rfl rfl (by omega)) c_5)
  refine lv_iload_n (pc := 16) E.1 E.2.1 dJ3_checkIndex_8e157_16 rfl (lv_at hl3 0 rfl) ?_
  exact em_i (w1 := (fun (u : Unit) => (WZ_Es cI cJ mr mi mf mg))) E hr hlk () hw1 trivial (Nat.le_of_ble_eq_true rfl) (Nat.le_of_ble_eq_true rfl) dJ3_checkIndex_8e157_17
set_option maxHeartbeats 4000000 in
set_option maxRecDepth 100000 in
theorem t_coder (l : Launch) (D : va_G) (cI cJ : ClassId) (sz : Nat) (mr : Nat → Nat) (mi : Nat → Int32) (mf : Nat → Nat → Int32) (mg : Nat → Nat → Int64)  (ad av : Nat → Nat) (tf : Value) (i : Nat) (hi : i < 7)  : Met l yJ0_coder_7d493 (Cond.code yJ0_coder_7d493 cJ0_coder_7d493 1 (some .byte) :: GW) ({ frames := 1, cells := 0, slots := 0, locals := 40 } : Room) (va_Pc [.ref (ad i)] (PW D cI cJ sz (WZ_Es cI cJ mr mi mf mg) (xS ad av tf (va_A (WZ_Es cI cJ mr mi mf mg) sz)))) (va_Qi (fun (r : Int32) (u : Unit) => ((r = 0))) (fun u => QW D cI cJ (va_A (WZ_Es cI cJ mr mi mf mg) sz) ((fun (u : Unit) => (WZ_Es cI cJ mr mi mf mg)) u)) (va_A (WZ_Es cI cJ mr mi mf mg) sz)) 0 0 (va_A (WZ_Es cI cJ mr mi mf mg) sz) := by
  refine mk_metA (X := fun A => xS ad av tf A) (y := yJ0_coder_7d493) (bytes := cJ0_coder_7d493) (maxL := 1) (avs := [.ref (ad i)]) (WS := (WZ_Es cI cJ mr mi mf mg)) (Qf := fun A => va_Qi (fun (r : Int32) (u : Unit) => ((r = 0))) (fun u => QW D cI cJ A ((fun (u : Unit) => (WZ_Es cI cJ mr mi mf mg)) u)) A) (by decide) (Nat.le_of_ble_eq_true rfl) ?_
  intro p e s m below meth c A ls E hr hlk hnm hX hw1 hl2
  have hl3 : lv_has ls 1 [(0, .ref (ad i))] := hl2
  refine x_gets (pc := 0) E hw1 hX.2.1 q_741 rfl dJ0_coder_7d493_0 ?_
  refine lv_if_eq (pc := 3) (tgt := 13) E.1 E.2.1 dJ0_coder_7d493_3 (by decide) (fun c_4 => absurd c_4 (mneE (a := 1) (b := 0) (by decide +kernel) (by decide +kernel) (by omega))) (fun _ => ?_)
  refine lv_aload_n (pc := 6) E.1 E.2.1 dJ0_coder_7d493_6 rfl (lv_at hl3 0 rfl) ?_
  refine x_sf (pc := 7) E hw1 (hX.1.1 i hi).2.1 q_2146 rfl dJ0_coder_7d493_7 ?_
  refine lv_goto (pc := 10) (tgt := 14) E.1 E.2.1 dJ0_coder_7d493_10 (by decide) ?_
  exact em_t (w1 := (fun (u : Unit) => (WZ_Es cI cJ mr mi mf mg))) E hr hlk () hw1 (rfl) (by decide +kernel) (Nat.le_of_ble_eq_true rfl) (Nat.le_of_ble_eq_true rfl) dJ0_coder_7d493_14
set_option maxHeartbeats 4000000 in
set_option maxRecDepth 100000 in
theorem t_isLatin1 (l : Launch) (D : va_G) (cI cJ : ClassId) (sz : Nat) (mr : Nat → Nat) (mi : Nat → Int32) (mf : Nat → Nat → Int32) (mg : Nat → Nat → Int64)  (ad av : Nat → Nat) (tf : Value) (i : Nat) (hi : i < 7)  : Met l yJ0_isLatin1_aae02 (Cond.code yJ0_isLatin1_aae02 cJ0_isLatin1_aae02 1 (some .boolean) :: GW) ({ frames := 1, cells := 0, slots := 0, locals := 40 } : Room) (va_Pc [.ref (ad i)] (PW D cI cJ sz (WZ_Es cI cJ mr mi mf mg) (xS ad av tf (va_A (WZ_Es cI cJ mr mi mf mg) sz)))) (va_Qi (fun (r : Int32) (u : Unit) => ((r = 1))) (fun u => QW D cI cJ (va_A (WZ_Es cI cJ mr mi mf mg) sz) ((fun (u : Unit) => (WZ_Es cI cJ mr mi mf mg)) u)) (va_A (WZ_Es cI cJ mr mi mf mg) sz)) 0 0 (va_A (WZ_Es cI cJ mr mi mf mg) sz) := by
  refine mk_metA (X := fun A => xS ad av tf A) (y := yJ0_isLatin1_aae02) (bytes := cJ0_isLatin1_aae02) (maxL := 1) (avs := [.ref (ad i)]) (WS := (WZ_Es cI cJ mr mi mf mg)) (Qf := fun A => va_Qi (fun (r : Int32) (u : Unit) => ((r = 1))) (fun u => QW D cI cJ A ((fun (u : Unit) => (WZ_Es cI cJ mr mi mf mg)) u)) A) (by decide) (Nat.le_of_ble_eq_true rfl) ?_
  intro p e s m below meth c A ls E hr hlk hnm hX hw1 hl2
  have hl3 : lv_has ls 1 [(0, .ref (ad i))] := hl2
  refine x_gets (pc := 0) E hw1 hX.2.1 q_741 rfl dJ0_isLatin1_aae02_0 ?_
  refine lv_if_eq (pc := 3) (tgt := 17) E.1 E.2.1 dJ0_isLatin1_aae02_3 (by decide) (fun c_4 => absurd c_4 (mneE (a := 1) (b := 0) (by decide +kernel) (by decide +kernel) (by omega))) (fun _ => ?_)
  refine lv_aload_n (pc := 6) E.1 E.2.1 dJ0_isLatin1_aae02_6 rfl (lv_at hl3 0 rfl) ?_
  refine x_sf (pc := 7) E hw1 (hX.1.1 i hi).2.1 q_2146 rfl dJ0_isLatin1_aae02_7 ?_
  refine lv_if_ne (pc := 10) (tgt := 17) E.1 E.2.1 dJ0_isLatin1_aae02_10 (by decide) (fun c_5 => absurd (meqE (a := 0) (b := 0) (by decide +kernel) (by decide +kernel) (by omega)) c_5) (fun _ => ?_)
  refine lv_iconst (pc := 13) (v := 1) E.1 E.2.1 dJ0_isLatin1_aae02_13 (by decide +kernel) ?_
  refine lv_goto (pc := 14) (tgt := 18) E.1 E.2.1 dJ0_isLatin1_aae02_14 (by decide) ?_
  exact em_z (w1 := (fun (u : Unit) => (WZ_Es cI cJ mr mi mf mg))) E hr hlk () hw1 (rfl) (by decide +kernel) (Nat.le_of_ble_eq_true rfl) (Nat.le_of_ble_eq_true rfl) dJ0_isLatin1_aae02_18
set_option maxHeartbeats 4000000 in
set_option maxRecDepth 100000 in
theorem t_length (l : Launch) (D : va_G) (cI cJ : ClassId) (sz : Nat) (mr : Nat → Nat) (mi : Nat → Int32) (mf : Nat → Nat → Int32) (mg : Nat → Nat → Int64)  (ad av : Nat → Nat) (tf : Value) (i : Nat) (hi : i < 7)  : Met l yJ0_length_8abf5 (Cond.code yJ0_length_8abf5 cJ0_length_8abf5 1 (some .int) :: GW) ({ frames := 2, cells := 0, slots := 0, locals := 60 } : Room) (va_Pc [.ref (ad i)] (PW D cI cJ sz (WZ_Es cI cJ mr mi mf mg) (xS ad av tf (va_A (WZ_Es cI cJ mr mi mf mg) sz)))) (va_Qi (fun (r : Int32) (u : Unit) => (r.toInt = (sLen.getD i 0 : Int)) ∧ (0 ≤ r.toInt) ∧ (r.toInt ≤ 75)) (fun u => QW D cI cJ (va_A (WZ_Es cI cJ mr mi mf mg) sz) ((fun (u : Unit) => (WZ_Es cI cJ mr mi mf mg)) u)) (va_A (WZ_Es cI cJ mr mi mf mg) sz)) 0 0 (va_A (WZ_Es cI cJ mr mi mf mg) sz) := by
  refine mk_metA (X := fun A => xS ad av tf A) (y := yJ0_length_8abf5) (bytes := cJ0_length_8abf5) (maxL := 1) (avs := [.ref (ad i)]) (WS := (WZ_Es cI cJ mr mi mf mg)) (Qf := fun A => va_Qi (fun (r : Int32) (u : Unit) => (r.toInt = (sLen.getD i 0 : Int)) ∧ (0 ≤ r.toInt) ∧ (r.toInt ≤ 75)) (fun u => QW D cI cJ A ((fun (u : Unit) => (WZ_Es cI cJ mr mi mf mg)) u)) A) (by decide) (Nat.le_of_ble_eq_true rfl) ?_
  intro p e s m below meth c A ls E hr hlk hnm hX hw1 hl2
  have hl3 : lv_has ls 1 [(0, .ref (ad i))] := hl2
  refine lv_aload_n (pc := 0) E.1 E.2.1 dJ0_length_8abf5_0 rfl (lv_at hl3 0 rfl) ?_
  refine x_sf (pc := 1) E hw1 (hX.1.1 i hi).2.2.1 q_2145 rfl dJ0_length_8abf5_1 ?_
  obtain ⟨v_4, ev_4, hv_4, hv_4b⟩ := s_len hi
  refine x_tblen (pc := 4) E hw1 (hX.1.1 i hi).2.2.2 ev_4 dJ0_length_8abf5_4 ?_
  refine lv_aload_n (pc := 5) E.1 E.2.1 dJ0_length_8abf5_5 rfl (lv_at hl3 0 rfl) ?_
  refine ck_i (pc := 6) (ws' := (fun (u : Unit) => (WZ_Es cI cJ mr mi mf mg))) [] hw1 rfl (fun hC_ => (rn_VS (As := []) (rest := [.int v_4]) E hw1 (t_coder l D cI cJ _ mr mi mf mg ad av tf i hi) (gdV q_737 q_738 q_739 q_163 q_740) hdV_J0_coder_7d493 ⟨rfl, rfl⟩ ⟨(Nat.le_of_ble_eq_true rfl), (Nat.le_of_ble_eq_true rfl)⟩ ⟨(Nat.le_of_ble_eq_true rfl), (Nat.le_of_ble_eq_true rfl)⟩ xS_b (xS_at hX hw1.2.2.1 (va_free hw1.2.1 hw1.2.2.1 hw1.2.2.2 _ hC_)) hX.1 hi rfl rfl _ hC_ (nd_T _ 0) rfl hl3.1 rfl (Nat.le_of_ble_eq_true rfl) dJ0_length_8abf5_6)) rfl (fun _ => rfl) (fun _ => rfl) (fun r_6 u_5 H1 locs hp hw7 => ?_)
  generalize H1 = H at hw7 ⊢
  have hw8 : WD D A s.heap (WZ_Es cI cJ mr mi mf mg) H locs := hw7
  have hp_9 := hp
  rcases hp_9 with rfl
  · skip
    refine lv_ishr (pc := 9) E.1 E.2.1 dJ0_length_8abf5_9 ?_
    refine tI (y := v_4) (shr_0 _) ?_
    exact em_i (w1 := (fun (u : Unit) => (WZ_Es cI cJ mr mi mf mg))) E hr hlk () hw8 ⟨(by show v_4.toInt = (sLen.getD i 0 : Int); omega), (by show 0 ≤ v_4.toInt; omega), (by show v_4.toInt ≤ 75; omega)⟩ (Nat.le_of_ble_eq_true rfl) (Nat.le_of_ble_eq_true rfl) dJ0_length_8abf5_10
set_option maxHeartbeats 4000000 in
set_option maxRecDepth 100000 in
theorem t_checkIndexS (l : Launch) (D : va_G) (cI cJ : ClassId) (sz : Nat) (mr : Nat → Nat) (mi : Nat → Int32) (mf : Nat → Nat → Int32) (mg : Nat → Nat → Int64) (z_index : Int32) (z_length : Int32) (ad av : Nat → Nat) (tf : Value) (h0 : 0 ≤ z_index.toInt) (h1 : z_index.toInt + 1 ≤ z_length.toInt) : Met l yJ0_checkIndex_df160 (Cond.code yJ0_checkIndex_df160 cJ0_checkIndex_df160 2 none :: GW) ({ frames := 2, cells := 0, slots := 0, locals := 62 } : Room) (va_Pc [.int z_index, .int z_length] (PW D cI cJ sz (WZ_Es cI cJ mr mi mf mg) (xS ad av tf (va_A (WZ_Es cI cJ mr mi mf mg) sz)))) (va_Qv (fun (u : Unit) => True) (fun u => QW D cI cJ (va_A (WZ_Es cI cJ mr mi mf mg) sz) ((fun (u : Unit) => (WZ_Es cI cJ mr mi mf mg)) u)) (va_A (WZ_Es cI cJ mr mi mf mg) sz)) 0 0 (va_A (WZ_Es cI cJ mr mi mf mg) sz) := by
  refine mk_metA (X := fun A => xS ad av tf A) (y := yJ0_checkIndex_df160) (bytes := cJ0_checkIndex_df160) (maxL := 2) (avs := [.int z_index, .int z_length]) (WS := (WZ_Es cI cJ mr mi mf mg)) (Qf := fun A => va_Qv (fun (u : Unit) => True) (fun u => QW D cI cJ A ((fun (u : Unit) => (WZ_Es cI cJ mr mi mf mg)) u)) A) (by decide) (Nat.le_of_ble_eq_true rfl) ?_
  intro p e s m below meth c A ls E hr hlk hnm hX hw1 hl2
  have hl3 : lv_has ls 2 [(0, .int z_index), (1, .int z_length)] := hl2
  refine lv_iload_n (pc := 0) E.1 E.2.1 dJ0_checkIndex_df160_0 rfl (lv_at hl3 0 rfl) ?_
  refine lv_iload_n (pc := 1) E.1 E.2.1 dJ0_checkIndex_df160_1 rfl (lv_at hl3 1 rfl) ?_
  refine x_gets (pc := 2) E hw1 hX.2.2.1 q_757 rfl dJ0_checkIndex_df160_2 ?_
  rcases hX.2.2.2 with rfl | ⟨tz, rfl⟩
  · skip
    refine ck_i (pc := 5) (ws' := (fun (u : Unit) => (WZ_Es cI cJ mr mi mf mg))) [] hw1 rfl (fun hC_ => (rn_S2 (As := [.int z_index, .int z_length, .null]) (rest := []) E hw1 (t_checkIndexN l D cI cJ _ mr mi mf mg z_index z_length h0 h1) q_761 q_165 q_759 q_760 hdS_J3_checkIndex_8e157 ⟨rfl, rfl⟩ ⟨(Nat.le_of_ble_eq_true rfl), (Nat.le_of_ble_eq_true rfl)⟩ ⟨(Nat.le_of_ble_eq_true rfl), (Nat.le_of_ble_eq_true rfl)⟩ xT_b xT_at _ hC_ (nd_T _ 0) rfl hl3.1 rfl (Nat.le_of_ble_eq_true rfl) dJ0_checkIndex_df160_5)) rfl (fun _ => rfl) (fun _ => rfl) (fun r_5 u_4 H1 locs hp hw6 => ?_)
    generalize H1 = H at hw6 ⊢
    have hw7 : WD D A s.heap (WZ_Es cI cJ mr mi mf mg) H locs := hw6
    refine lv_pop (pc := 8) E.1 E.2.1 dJ0_checkIndex_df160_8 rfl ?_
    exact em_v (w1 := (fun (u : Unit) => (WZ_Es cI cJ mr mi mf mg))) E hr hlk () hw7 trivial (Nat.le_of_ble_eq_true rfl) (Nat.le_of_ble_eq_true rfl) dJ0_checkIndex_df160_9
  · skip
    refine ck_i (pc := 5) (ws' := (fun (u : Unit) => (WZ_Es cI cJ mr mi mf mg))) [] hw1 rfl (fun hC_ => (rn_S2 (As := [.int z_index, .int z_length, .ref tz]) (rest := []) E hw1 (t_checkIndexP l D cI cJ _ mr mi mf mg z_index z_length tz h0 h1) q_761 q_165 q_759 q_760 hdS_J3_checkIndex_8e157 ⟨rfl, rfl⟩ ⟨(Nat.le_of_ble_eq_true rfl), (Nat.le_of_ble_eq_true rfl)⟩ ⟨(Nat.le_of_ble_eq_true rfl), (Nat.le_of_ble_eq_true rfl)⟩ xT_b xT_at _ hC_ (nd_T _ 0) rfl hl3.1 rfl (Nat.le_of_ble_eq_true rfl) dJ0_checkIndex_df160_5)) rfl (fun _ => rfl) (fun _ => rfl) (fun r_9 u_8 H1 locs hp hw10 => ?_)
    generalize H1 = H at hw10 ⊢
    have hw11 : WD D A s.heap (WZ_Es cI cJ mr mi mf mg) H locs := hw10
    refine lv_pop (pc := 8) E.1 E.2.1 dJ0_checkIndex_df160_8 rfl ?_
    exact em_v (w1 := (fun (u : Unit) => (WZ_Es cI cJ mr mi mf mg))) E hr hlk () hw11 trivial (Nat.le_of_ble_eq_true rfl) (Nat.le_of_ble_eq_true rfl) dJ0_checkIndex_df160_9
set_option maxHeartbeats 4000000 in
set_option maxRecDepth 100000 in
theorem t_charAtL (l : Launch) (D : va_G) (cI cJ : ClassId) (sz : Nat) (mr : Nat → Nat) (mi : Nat → Int32) (mf : Nat → Nat → Int32) (mg : Nat → Nat → Int64) (z_index : Int32) (ad av : Nat → Nat) (tf : Value) (i : Nat) (hi : i < 7) (h0 : 0 ≤ z_index.toInt) (h1 : z_index.toInt + 1 ≤ (sLen.getD i 0 : Int)) : Met l yJ1_charAt_3b067 (Cond.code yJ1_charAt_3b067 cJ1_charAt_3b067 2 (some .char) :: GW) ({ frames := 3, cells := 0, slots := 0, locals := 83 } : Room) (va_Pc [.ref (av i), .int z_index] (PW D cI cJ sz (WZ_Es cI cJ mr mi mf mg) (xS ad av tf (va_A (WZ_Es cI cJ mr mi mf mg) sz)))) (va_Qi (fun (r : Int32) (u : Unit) => (0 ≤ r.toInt) ∧ (r.toInt ≤ 65535)) (fun u => QW D cI cJ (va_A (WZ_Es cI cJ mr mi mf mg) sz) ((fun (u : Unit) => (WZ_Es cI cJ mr mi mf mg)) u)) (va_A (WZ_Es cI cJ mr mi mf mg) sz)) 0 0 (va_A (WZ_Es cI cJ mr mi mf mg) sz) := by
  refine mk_metA (X := fun A => xS ad av tf A) (y := yJ1_charAt_3b067) (bytes := cJ1_charAt_3b067) (maxL := 2) (avs := [.ref (av i), .int z_index]) (WS := (WZ_Es cI cJ mr mi mf mg)) (Qf := fun A => va_Qi (fun (r : Int32) (u : Unit) => (0 ≤ r.toInt) ∧ (r.toInt ≤ 65535)) (fun u => QW D cI cJ A ((fun (u : Unit) => (WZ_Es cI cJ mr mi mf mg)) u)) A) (by decide) (Nat.le_of_ble_eq_true rfl) ?_
  intro p e s m below meth c A ls E hr hlk hnm hX hw1 hl2
  have hl3 : lv_has ls 2 [(0, .ref (av i)), (1, .int z_index)] := hl2
  refine lv_iload_n (pc := 0) E.1 E.2.1 dJ1_charAt_3b067_0 rfl (lv_at hl3 1 rfl) ?_
  refine lv_aload_n (pc := 1) E.1 E.2.1 dJ1_charAt_3b067_1 rfl (lv_at hl3 0 rfl) ?_
  obtain ⟨v_4, ev_4, hv_4, hv_4b⟩ := s_len hi
  refine x_tblen (pc := 2) E hw1 (hX.1.1 i hi).2.2.2 ev_4 dJ1_charAt_3b067_2 ?_
  refine ck_v (pc := 3) (ws' := (fun (u : Unit) => (WZ_Es cI cJ mr mi mf mg))) [] hw1 rfl (fun hC_ => (rn_S2 (As := [.int z_index, .int v_4]) (rest := []) E hw1 (t_checkIndexS l D cI cJ _ mr mi mf mg z_index v_4 ad av tf h0 (by show z_index.toInt + 1 ≤ v_4.toInt; omega)) q_756 q_163 q_754 q_755 hdS_J0_checkIndex_df160 ⟨rfl, rfl⟩ ⟨(Nat.le_of_ble_eq_true rfl), (Nat.le_of_ble_eq_true rfl)⟩ ⟨(Nat.le_of_ble_eq_true rfl), (Nat.le_of_ble_eq_true rfl)⟩ xS_b (xS_at hX hw1.2.2.1 (va_free hw1.2.1 hw1.2.2.1 hw1.2.2.2 _ hC_)) _ hC_ (nd_T _ 0) rfl hl3.1 rfl (Nat.le_of_ble_eq_true rfl) dJ1_charAt_3b067_3)) rfl (fun _ => rfl) (fun _ => rfl) (fun u_5 H1 locs hp hw7 => ?_)
  generalize H1 = H at hw7 ⊢
  have hw8 : WD D A s.heap (WZ_Es cI cJ mr mi mf mg) H locs := hw7
  refine lv_aload_n (pc := 6) E.1 E.2.1 dJ1_charAt_3b067_6 rfl (lv_at hl3 0 rfl) ?_
  refine lv_iload_n (pc := 7) E.1 E.2.1 dJ1_charAt_3b067_7 rfl (lv_at hl3 1 rfl) ?_
  refine x_tb (pc := 8) E hw8 (hX.1.1 i hi).2.2.2 (inbE (a := z_index.toInt) rfl (by omega)) rfl dJ1_charAt_3b067_8 ?_
  refine lv_topi (fun v_10 ev_10 => ?_)
  refine lv_sipush (pc := 9) (v := 255) E.1 E.2.1 dJ1_charAt_3b067_9 (by decide +kernel) ?_
  refine lv_iand (pc := 12) E.1 E.2.1 dJ1_charAt_3b067_12 ?_
  refine lv_topi (fun v_11 ev_11 => ?_)
  refine lv_i2c (pc := 13) E.1 E.2.1 dJ1_charAt_3b067_13 rfl ?_
  refine lv_topi (fun v_12 ev_12 => ?_)
  have hbv_12 : 0 ≤ v_12.toInt ∧ v_12.toInt ≤ 65535 := by rw [ev_12]; exact i2c_b _
  exact em_t (w1 := (fun (u : Unit) => (WZ_Es cI cJ mr mi mf mg))) E hr hlk () hw8 ⟨(by show 0 ≤ v_12.toInt; omega), (by show v_12.toInt ≤ 65535; omega)⟩ (char_nar (by omega)) (Nat.le_of_ble_eq_true rfl) (Nat.le_of_ble_eq_true rfl) dJ1_charAt_3b067_14
set_option maxHeartbeats 4000000 in
set_option maxRecDepth 100000 in
theorem t_charAt (l : Launch) (D : va_G) (cI cJ : ClassId) (sz : Nat) (mr : Nat → Nat) (mi : Nat → Int32) (mf : Nat → Nat → Int32) (mg : Nat → Nat → Int64) (z_index : Int32) (ad av : Nat → Nat) (tf : Value) (i : Nat) (hi : i < 7) (h0 : 0 ≤ z_index.toInt) (h1 : z_index.toInt + 1 ≤ (sLen.getD i 0 : Int)) : Met l yJ0_charAt_5068e (Cond.code yJ0_charAt_5068e cJ0_charAt_5068e 2 (some .char) :: GW) ({ frames := 4, cells := 0, slots := 0, locals := 104 } : Room) (va_Pc [.ref (ad i), .int z_index] (PW D cI cJ sz (WZ_Es cI cJ mr mi mf mg) (xS ad av tf (va_A (WZ_Es cI cJ mr mi mf mg) sz)))) (va_Qi (fun (r : Int32) (u : Unit) => (0 ≤ r.toInt) ∧ (r.toInt ≤ 65535)) (fun u => QW D cI cJ (va_A (WZ_Es cI cJ mr mi mf mg) sz) ((fun (u : Unit) => (WZ_Es cI cJ mr mi mf mg)) u)) (va_A (WZ_Es cI cJ mr mi mf mg) sz)) 0 0 (va_A (WZ_Es cI cJ mr mi mf mg) sz) := by
  refine mk_metA (X := fun A => xS ad av tf A) (y := yJ0_charAt_5068e) (bytes := cJ0_charAt_5068e) (maxL := 2) (avs := [.ref (ad i), .int z_index]) (WS := (WZ_Es cI cJ mr mi mf mg)) (Qf := fun A => va_Qi (fun (r : Int32) (u : Unit) => (0 ≤ r.toInt) ∧ (r.toInt ≤ 65535)) (fun u => QW D cI cJ A ((fun (u : Unit) => (WZ_Es cI cJ mr mi mf mg)) u)) A) (by decide) (Nat.le_of_ble_eq_true rfl) ?_
  intro p e s m below meth c A ls E hr hlk hnm hX hw1 hl2
  have hl3 : lv_has ls 2 [(0, .ref (ad i)), (1, .int z_index)] := hl2
  refine lv_aload_n (pc := 0) E.1 E.2.1 dJ0_charAt_5068e_0 rfl (lv_at hl3 0 rfl) ?_
  refine ck_i (pc := 1) (ws' := (fun (u : Unit) => (WZ_Es cI cJ mr mi mf mg))) [] hw1 rfl (fun hC_ => (rn_VS (As := []) (rest := []) E hw1 (t_isLatin1 l D cI cJ _ mr mi mf mg ad av tf i hi) (gdV q_747 q_748 q_749 q_163 q_750) hdV_J0_isLatin1_aae02 ⟨rfl, rfl⟩ ⟨(Nat.le_of_ble_eq_true rfl), (Nat.le_of_ble_eq_true rfl)⟩ ⟨(Nat.le_of_ble_eq_true rfl), (Nat.le_of_ble_eq_true rfl)⟩ xS_b (xS_at hX hw1.2.2.1 (va_free hw1.2.1 hw1.2.2.1 hw1.2.2.2 _ hC_)) hX.1 hi rfl rfl _ hC_ (nd_T _ 0) rfl hl3.1 rfl (Nat.le_of_ble_eq_true rfl) dJ0_charAt_5068e_1)) rfl (fun _ => rfl) (fun _ => rfl) (fun r_5 u_4 H1 locs hp hw6 => ?_)
  generalize H1 = H at hw6 ⊢
  have hw7 : WD D A s.heap (WZ_Es cI cJ mr mi mf mg) H locs := hw6
  have hp_8 := hp
  rcases hp_8 with rfl
  · skip
    refine lv_if_eq (pc := 4) (tgt := 16) E.1 E.2.1 dJ0_charAt_5068e_4 (by decide) (fun c_9 => absurd c_9 (mneE (a := 1) (b := 0) (by decide +kernel) (by decide +kernel) (by omega))) (fun _ => ?_)
    refine lv_aload_n (pc := 7) E.1 E.2.1 dJ0_charAt_5068e_7 rfl (lv_at hl3 0 rfl) ?_
    refine x_sf (pc := 8) E hw7 (hX.1.1 i hi).2.2.1 q_2145 rfl dJ0_charAt_5068e_8 ?_
    refine lv_iload_n (pc := 11) E.1 E.2.1 dJ0_charAt_5068e_11 rfl (lv_at hl3 1 rfl) ?_
    refine ck_i (pc := 12) (ws' := (fun (u : Unit) => (WZ_Es cI cJ mr mi mf mg))) [] hw7 rfl (fun hC_ => (rn_S2 (As := [.ref (av i), .int z_index]) (rest := []) E hw7 (t_charAtL l D cI cJ _ mr mi mf mg z_index ad av tf i hi h0 h1) q_753 q_164 q_751 q_752 hdS_J1_charAt_3b067 ⟨rfl, rfl⟩ ⟨(Nat.le_of_ble_eq_true rfl), (Nat.le_of_ble_eq_true rfl)⟩ ⟨(Nat.le_of_ble_eq_true rfl), (Nat.le_of_ble_eq_true rfl)⟩ xS_b (xS_at hX hw7.2.2.1 (va_free hw7.2.1 hw7.2.2.1 hw7.2.2.2 _ hC_)) _ hC_ (nd_T _ 0) rfl hl3.1 rfl (Nat.le_of_ble_eq_true rfl) dJ0_charAt_5068e_12)) rfl (fun _ => rfl) (fun _ => rfl) (fun r_11 u_10 H1 locs hp hw12 => ?_)
    generalize H1 = H at hw12 ⊢
    have hw13 : WD D A s.heap (WZ_Es cI cJ mr mi mf mg) H locs := hw12
    obtain ⟨hp_14, hp_15⟩ := hp
    have hp_14 : 0 ≤ r_11.toInt := hp_14
    have hp_15 : r_11.toInt ≤ 65535 := hp_15
    exact em_t (w1 := (fun (u : Unit) => (WZ_Es cI cJ mr mi mf mg))) E hr hlk () hw13 ⟨hp_14, hp_15⟩ (char_nar (by omega)) (Nat.le_of_ble_eq_true rfl) (Nat.le_of_ble_eq_true rfl) dJ0_charAt_5068e_15
set_option maxHeartbeats 4000000 in
set_option maxRecDepth 100000 in
theorem t_indexOfChar (l : Launch) (D : va_G) (cI cJ : ClassId) (sz : Nat) (mr : Nat → Nat) (mi : Nat → Int32) (mf : Nat → Nat → Int32) (mg : Nat → Nat → Int64) (z_ch : Int32) (z_from : Int32) (z_to : Int32) (ad av : Nat → Nat) (tf : Value) (i : Nat) (hi : i < 7) (h0 : 0 ≤ z_from.toInt) (h1 : z_from.toInt ≤ z_to.toInt) (h2 : z_to.toInt ≤ (sLen.getD i 0 : Int)) (h3 : z_to.toInt ≤ 75) : Met l yJ1_indexOfChar_4cfef (Cond.code yJ1_indexOfChar_4cfef cJ1_indexOfChar_4cfef 6 (some .int) :: GW) ({ frames := 1, cells := 0, slots := 0, locals := 40 } : Room) (va_Pc [.ref (av i), .int z_ch, .int z_from, .int z_to] (PW D cI cJ sz (WZ_Es cI cJ mr mi mf mg) (xS ad av tf (va_A (WZ_Es cI cJ mr mi mf mg) sz)))) (va_Qi (fun (r : Int32) (u : Unit) => True) (fun u => QW D cI cJ (va_A (WZ_Es cI cJ mr mi mf mg) sz) ((fun (u : Unit) => (WZ_Es cI cJ mr mi mf mg)) u)) (va_A (WZ_Es cI cJ mr mi mf mg) sz)) 0 0 (va_A (WZ_Es cI cJ mr mi mf mg) sz) := by
  refine mk_metA (X := fun A => xS ad av tf A) (y := yJ1_indexOfChar_4cfef) (bytes := cJ1_indexOfChar_4cfef) (maxL := 6) (avs := [.ref (av i), .int z_ch, .int z_from, .int z_to]) (WS := (WZ_Es cI cJ mr mi mf mg)) (Qf := fun A => va_Qi (fun (r : Int32) (u : Unit) => True) (fun u => QW D cI cJ A ((fun (u : Unit) => (WZ_Es cI cJ mr mi mf mg)) u)) A) (by decide) (Nat.le_of_ble_eq_true rfl) ?_
  intro p e s m below meth c A ls E hr hlk hnm hX hw1 hl2
  have hl3 : lv_has ls 6 [(0, .ref (av i)), (1, .int z_ch), (2, .int z_from), (3, .int z_to)] := hl2
  refine lv_iload_n (pc := 0) E.1 E.2.1 dJ1_indexOfChar_4cfef_0 rfl (lv_at hl3 1 rfl) ?_
  refine lv_i2b (pc := 1) E.1 E.2.1 dJ1_indexOfChar_4cfef_1 rfl ?_
  refine lv_topi (fun v_4 ev_4 => ?_)
  refine lv_istore (pc := 2) (lv' := [(4, .int v_4), (0, .ref (av i)), (1, .int z_ch), (2, .int z_from), (3, .int z_to)]) E.1 E.2.1 dJ1_indexOfChar_4cfef_2 hl3 (by decide) rfl (fun ls hl5 => ?_)
  refine lv_iload_n (pc := 4) E.1 E.2.1 dJ1_indexOfChar_4cfef_4 rfl (lv_at hl5 3 rfl) ?_
  refine lv_istore (pc := 5) (lv' := [(5, .int z_from), (4, .int v_4), (0, .ref (av i)), (1, .int z_ch), (2, .int z_from), (3, .int z_to)]) E.1 E.2.1 dJ1_indexOfChar_4cfef_5 hl5 (by decide) rfl (fun ls hl6 => ?_)
  have loop_7 : ∀ (k : Nat) (x_8 : Int32) (H : Heap) (locs : List Loc) (ls : Array Slot), (0 ≤ x_8.toInt) ∧ (x_8.toInt ≤ z_to.toInt) → z_to.toInt - x_8.toInt < (k : Int) → WD D A s.heap (WZ_Es cI cJ mr mi mf mg) H locs → lv_has ls 6 [(5, .int x_8), (4, .int v_4), (0, .ref (av i)), (1, .int z_ch), (2, .int z_from), (3, .int z_to)] → W p l e ({ frames := 1, cells := 0, slots := 0, locals := 40 } : Room) s m ([.ref (av i), .int z_ch, .int z_from, .int z_to] : List Value).toArray below meth c H locs 0 0 (MQ below (va_Qi (fun (r : Int32) (u : Unit) => True) (fun u => QW D cI cJ A ((fun (u : Unit) => (WZ_Es cI cJ mr mi mf mg)) u)) A) ([.ref (av i), .int z_ch, .int z_from, .int z_to] : List Value).toArray s 0 0 A) (F0 m 7 ls []) := by
    intro k
    induction k with
    | zero =>
      intro x_8 _ _ _ hinv hm
      obtain ⟨hi_8_0, hi_8_1⟩ := hinv
      exact absurd hm (by omega)
    | succ k ih_9 =>
      intro x_8 H locs ls hinv hm hw10 hl11
      obtain ⟨hi_8_0, hi_8_1⟩ := hinv
      refine lv_iload (pc := 7) E.1 E.2.1 dJ1_indexOfChar_4cfef_7 (lv_at hl11 0 rfl) ?_
      refine lv_iload_n (pc := 9) E.1 E.2.1 dJ1_indexOfChar_4cfef_9 rfl (lv_at hl11 5 rfl) ?_
      refine lv_icmp_ge (pc := 10) (tgt := 31) E.1 E.2.1 dJ1_indexOfChar_4cfef_10 (by decide) (fun c_12 => ?_) (fun c_12 => ?_)
      · skip
        have hc_12 := leE (a := z_to.toInt) (b := x_8.toInt) rfl rfl c_12
        refine lv_iconst (pc := 31) (v := (-1)) E.1 E.2.1 dJ1_indexOfChar_4cfef_31 (by decide +kernel) ?_
        exact em_i (w1 := (fun (u : Unit) => (WZ_Es cI cJ mr mi mf mg))) E hr hlk () hw10 trivial (Nat.le_of_ble_eq_true rfl) (Nat.le_of_ble_eq_true rfl) dJ1_indexOfChar_4cfef_32
      · skip
        have hc_12 := nleE (a := z_to.toInt) (b := x_8.toInt) rfl rfl c_12
        refine lv_aload_n (pc := 13) E.1 E.2.1 dJ1_indexOfChar_4cfef_13 rfl (lv_at hl11 2 rfl) ?_
        refine lv_iload (pc := 14) E.1 E.2.1 dJ1_indexOfChar_4cfef_14 (lv_at hl11 0 rfl) ?_
        refine x_tb (pc := 16) E hw10 (hX.1.1 i hi).2.2.2 (inbE (a := x_8.toInt) rfl (by omega)) rfl dJ1_indexOfChar_4cfef_16 ?_
        refine lv_topi (fun v_14 ev_14 => ?_)
        refine lv_iload (pc := 17) E.1 E.2.1 dJ1_indexOfChar_4cfef_17 (lv_at hl11 1 rfl) ?_
        refine lv_icmp_ne (pc := 19) (tgt := 25) E.1 E.2.1 dJ1_indexOfChar_4cfef_19 (by decide) (fun c_15 => ?_) (fun c_15 => ?_)
        · skip
          have hc_15 := neE (a := v_14.toInt) (b := v_4.toInt) rfl rfl c_15
          obtain ⟨v_16, ev_16⟩ : ∃ z : Int32, x_8 + Int32.ofInt (1) = z := ⟨_, rfl⟩
          have hv_16 : v_16.toInt = x_8.toInt + (1) := by rw [← ev_16]; exact incE rfl (by decide) (by omega)
          refine lv_iinc (pc := 25) (v := v_16) (lv' := [(5, .int v_16), (4, .int v_4), (0, .ref (av i)), (1, .int z_ch), (2, .int z_from), (3, .int z_to)]) E.1 E.2.1 dJ1_indexOfChar_4cfef_25 hl11 (k := 0) rfl ev_16 (by decide) rfl (fun ls hl17 => ?_)
          refine lv_goto (pc := 28) (tgt := 7) E.1 E.2.1 dJ1_indexOfChar_4cfef_28 (by decide) ?_
          exact ih_9 v_16 _ _ _ ⟨(by show 0 ≤ v_16.toInt; omega), (by show v_16.toInt ≤ z_to.toInt; omega)⟩ (by omega) hw10 (lv_sub hl17 [0, 1, 2, 3, 4, 5] rfl)
        · skip
          have hc_15 := eqE (a := v_14.toInt) (b := v_4.toInt) rfl rfl c_15
          refine lv_iload (pc := 22) E.1 E.2.1 dJ1_indexOfChar_4cfef_22 (lv_at hl11 0 rfl) ?_
          exact em_i (w1 := (fun (u : Unit) => (WZ_Es cI cJ mr mi mf mg))) E hr hlk () hw10 trivial (Nat.le_of_ble_eq_true rfl) (Nat.le_of_ble_eq_true rfl) dJ1_indexOfChar_4cfef_24
  exact loop_7 (Int.toNat (z_to.toInt - z_from.toInt) + 1) z_from _ _ _ ⟨h0, h1⟩ (by omega) hw1 (lv_sub hl6 [0, 1, 2, 3, 4, 5] rfl)
set_option maxHeartbeats 4000000 in
set_option maxRecDepth 100000 in
theorem t_indexOfL (l : Launch) (D : va_G) (cI cJ : ClassId) (sz : Nat) (mr : Nat → Nat) (mi : Nat → Int32) (mf : Nat → Nat → Int32) (mg : Nat → Nat → Int64) (z_ch : Int32) (z_from : Int32) (z_to : Int32) (ad av : Nat → Nat) (tf : Value) (i : Nat) (hi : i < 7)  : Met l yJ1_indexOf_4cfef (Cond.code yJ1_indexOf_4cfef cJ1_indexOf_4cfef 4 (some .int) :: GW) ({ frames := 2, cells := 0, slots := 0, locals := 65 } : Room) (va_Pc [.ref (av i), .int z_ch, .int z_from, .int z_to] (PW D cI cJ sz (WZ_Es cI cJ mr mi mf mg) (xS ad av tf (va_A (WZ_Es cI cJ mr mi mf mg) sz)))) (va_Qi (fun (r : Int32) (u : Unit) => True) (fun u => QW D cI cJ (va_A (WZ_Es cI cJ mr mi mf mg) sz) ((fun (u : Unit) => (WZ_Es cI cJ mr mi mf mg)) u)) (va_A (WZ_Es cI cJ mr mi mf mg) sz)) 0 0 (va_A (WZ_Es cI cJ mr mi mf mg) sz) := by
  refine mk_metA (X := fun A => xS ad av tf A) (y := yJ1_indexOf_4cfef) (bytes := cJ1_indexOf_4cfef) (maxL := 4) (avs := [.ref (av i), .int z_ch, .int z_from, .int z_to]) (WS := (WZ_Es cI cJ mr mi mf mg)) (Qf := fun A => va_Qi (fun (r : Int32) (u : Unit) => True) (fun u => QW D cI cJ A ((fun (u : Unit) => (WZ_Es cI cJ mr mi mf mg)) u)) A) (by decide) (Nat.le_of_ble_eq_true rfl) ?_
  intro p e s m below meth c A ls E hr hlk hnm hX hw1 hl2
  have hl3 : lv_has ls 4 [(0, .ref (av i)), (1, .int z_ch), (2, .int z_from), (3, .int z_to)] := hl2
  refine lv_iload_n (pc := 0) E.1 E.2.1 dJ1_indexOf_4cfef_0 rfl (lv_at hl3 1 rfl) ?_
  refine ck_i (pc := 1) (ws' := (fun (u : Unit) => (WZ_Es cI cJ mr mi mf mg))) [] hw1 rfl (fun hC_ => (rn_S (As := [.int z_ch]) (rest := []) E hw1 (t_canEncode l D cI cJ _ mr mi mf mg z_ch) (gdS q_801 q_802 q_164 q_803) hdV_J1_canEncode_9a6ad ⟨rfl, rfl⟩ ⟨(Nat.le_of_ble_eq_true rfl), (Nat.le_of_ble_eq_true rfl)⟩ ⟨(Nat.le_of_ble_eq_true rfl), (Nat.le_of_ble_eq_true rfl)⟩ xT_b xT_at _ hC_ (nd_T _ 0) rfl hl3.1 rfl (Nat.le_of_ble_eq_true rfl) dJ1_indexOf_4cfef_1)) rfl (fun _ => rfl) (fun _ => rfl) (fun r_5 u_4 H1 locs hp hw6 => ?_)
  generalize H1 = H at hw6 ⊢
  have hw7 : WD D A s.heap (WZ_Es cI cJ mr mi mf mg) H locs := hw6
  obtain ⟨hp_8, hp_9⟩ := hp
  have hp_8 : 0 ≤ r_5.toInt := hp_8
  have hp_9 : r_5.toInt ≤ 1 := hp_9
  refine lv_if_ne (pc := 4) (tgt := 9) E.1 E.2.1 dJ1_indexOf_4cfef_4 (by decide) (fun c_10 => ?_) (fun c_10 => ?_)
  · skip
    have hc_10 := neE (a := r_5.toInt) (b := 0) rfl (by decide +kernel) c_10
    refine lv_iload_n (pc := 9) E.1 E.2.1 dJ1_indexOf_4cfef_9 rfl (lv_at hl3 2 rfl) ?_
    refine lv_iconst (pc := 10) (v := 0) E.1 E.2.1 dJ1_indexOf_4cfef_10 (by decide +kernel) ?_
    refine x_max (pc := 11) E hl3.1 q_804 q_805 q_167 q_806 (Nat.le_of_ble_eq_true rfl) (Nat.le_of_ble_eq_true rfl) (Nat.le_of_ble_eq_true rfl) (Nat.le_of_ble_eq_true rfl) dJ1_indexOf_4cfef_11 (fun v_11 hv_11 => ?_)
    rw [show (0 : Int32).toInt = 0 from by decide +kernel] at hv_11
    have hv_11a : z_from.toInt ≤ v_11.toInt ∧ 0 ≤ v_11.toInt := by omega
    clear hv_11
    refine lv_istore_n (pc := 14) (lv' := [(2, .int v_11), (0, .ref (av i)), (1, .int z_ch), (3, .int z_to)]) E.1 E.2.1 dJ1_indexOf_4cfef_14 rfl hl3 (by decide) rfl (fun ls hl12 => ?_)
    refine lv_iload_n (pc := 15) E.1 E.2.1 dJ1_indexOf_4cfef_15 rfl (lv_at hl12 3 rfl) ?_
    refine lv_aload_n (pc := 16) E.1 E.2.1 dJ1_indexOf_4cfef_16 rfl (lv_at hl12 1 rfl) ?_
    obtain ⟨v_13, ev_13, hv_13, hv_13b⟩ := s_len hi
    refine x_tblen (pc := 17) E hw7 (hX.1.1 i hi).2.2.2 ev_13 dJ1_indexOf_4cfef_17 ?_
    refine x_min (pc := 18) E hl12.1 q_807 q_808 q_167 q_809 (Nat.le_of_ble_eq_true rfl) (Nat.le_of_ble_eq_true rfl) (Nat.le_of_ble_eq_true rfl) (Nat.le_of_ble_eq_true rfl) dJ1_indexOf_4cfef_18 (fun v_14 hv_14 => ?_)
    have hv_14a : v_14.toInt ≤ z_to.toInt ∧ v_14.toInt ≤ v_13.toInt := by omega
    clear hv_14
    refine lv_istore_n (pc := 21) (lv' := [(3, .int v_14), (2, .int v_11), (0, .ref (av i)), (1, .int z_ch)]) E.1 E.2.1 dJ1_indexOf_4cfef_21 rfl hl12 (by decide) rfl (fun ls hl15 => ?_)
    refine lv_iload_n (pc := 22) E.1 E.2.1 dJ1_indexOf_4cfef_22 rfl (lv_at hl15 1 rfl) ?_
    refine lv_iload_n (pc := 23) E.1 E.2.1 dJ1_indexOf_4cfef_23 rfl (lv_at hl15 0 rfl) ?_
    refine lv_icmp_lt (pc := 24) (tgt := 29) E.1 E.2.1 dJ1_indexOf_4cfef_24 (by decide) (fun c_16 => ?_) (fun c_16 => ?_)
    · skip
      have hc_16 := ltE (a := v_11.toInt) (b := v_14.toInt) rfl rfl c_16
      refine lv_aload_n (pc := 29) E.1 E.2.1 dJ1_indexOf_4cfef_29 rfl (lv_at hl15 2 rfl) ?_
      refine lv_iload_n (pc := 30) E.1 E.2.1 dJ1_indexOf_4cfef_30 rfl (lv_at hl15 3 rfl) ?_
      refine lv_iload_n (pc := 31) E.1 E.2.1 dJ1_indexOf_4cfef_31 rfl (lv_at hl15 1 rfl) ?_
      refine lv_iload_n (pc := 32) E.1 E.2.1 dJ1_indexOf_4cfef_32 rfl (lv_at hl15 0 rfl) ?_
      refine ck_i (pc := 33) (ws' := (fun (u : Unit) => (WZ_Es cI cJ mr mi mf mg))) [] hw7 rfl (fun hC_ => (rn_S (As := [.ref (av i), .int z_ch, .int v_11, .int v_14]) (rest := []) E hw7 (t_indexOfChar l D cI cJ _ mr mi mf mg z_ch v_11 v_14 ad av tf i hi (by show 0 ≤ v_11.toInt; omega) (by show v_11.toInt ≤ v_14.toInt; omega) (by show v_14.toInt ≤ (sLen.getD i 0 : Int); omega) (by show v_14.toInt ≤ 75; omega)) (gdS q_810 q_811 q_164 q_812) hdV_J1_indexOfChar_4cfef ⟨rfl, rfl⟩ ⟨(Nat.le_of_ble_eq_true rfl), (Nat.le_of_ble_eq_true rfl)⟩ ⟨(Nat.le_of_ble_eq_true rfl), (Nat.le_of_ble_eq_true rfl)⟩ xS_b (xS_at hX hw7.2.2.1 (va_free hw7.2.1 hw7.2.2.1 hw7.2.2.2 _ hC_)) _ hC_ (nd_T _ 0) rfl hl15.1 rfl (Nat.le_of_ble_eq_true rfl) dJ1_indexOf_4cfef_33)) rfl (fun _ => rfl) (fun _ => rfl) (fun r_18 u_17 H1 locs hp hw19 => ?_)
      generalize H1 = H at hw19 ⊢
      have hw20 : WD D A s.heap (WZ_Es cI cJ mr mi mf mg) H locs := hw19
      exact em_i (w1 := (fun (u : Unit) => (WZ_Es cI cJ mr mi mf mg))) E hr hlk () hw20 trivial (Nat.le_of_ble_eq_true rfl) (Nat.le_of_ble_eq_true rfl) dJ1_indexOf_4cfef_36
    · skip
      have hc_16 := nltE (a := v_11.toInt) (b := v_14.toInt) rfl rfl c_16
      refine lv_iconst (pc := 27) (v := (-1)) E.1 E.2.1 dJ1_indexOf_4cfef_27 (by decide +kernel) ?_
      exact em_i (w1 := (fun (u : Unit) => (WZ_Es cI cJ mr mi mf mg))) E hr hlk () hw7 trivial (Nat.le_of_ble_eq_true rfl) (Nat.le_of_ble_eq_true rfl) dJ1_indexOf_4cfef_28
  · skip
    have hc_10 := eqE (a := r_5.toInt) (b := 0) rfl (by decide +kernel) c_10
    refine lv_iconst (pc := 7) (v := (-1)) E.1 E.2.1 dJ1_indexOf_4cfef_7 (by decide +kernel) ?_
    exact em_i (w1 := (fun (u : Unit) => (WZ_Es cI cJ mr mi mf mg))) E hr hlk () hw7 trivial (Nat.le_of_ble_eq_true rfl) (Nat.le_of_ble_eq_true rfl) dJ1_indexOf_4cfef_8
set_option maxHeartbeats 4000000 in
set_option maxRecDepth 100000 in
theorem t_indexOf2 (l : Launch) (D : va_G) (cI cJ : ClassId) (sz : Nat) (mr : Nat → Nat) (mi : Nat → Int32) (mf : Nat → Nat → Int32) (mg : Nat → Nat → Int64) (z_ch : Int32) (z_from : Int32) (ad av : Nat → Nat) (tf : Value) (i : Nat) (hi : i < 7)  : Met l yJ0_indexOf_7cf53 (Cond.code yJ0_indexOf_7cf53 cJ0_indexOf_7cf53 3 (some .int) :: GW) ({ frames := 3, cells := 0, slots := 0, locals := 88 } : Room) (va_Pc [.ref (ad i), .int z_ch, .int z_from] (PW D cI cJ sz (WZ_Es cI cJ mr mi mf mg) (xS ad av tf (va_A (WZ_Es cI cJ mr mi mf mg) sz)))) (va_Qi (fun (r : Int32) (u : Unit) => True) (fun u => QW D cI cJ (va_A (WZ_Es cI cJ mr mi mf mg) sz) ((fun (u : Unit) => (WZ_Es cI cJ mr mi mf mg)) u)) (va_A (WZ_Es cI cJ mr mi mf mg) sz)) 0 0 (va_A (WZ_Es cI cJ mr mi mf mg) sz) := by
  refine mk_metA (X := fun A => xS ad av tf A) (y := yJ0_indexOf_7cf53) (bytes := cJ0_indexOf_7cf53) (maxL := 3) (avs := [.ref (ad i), .int z_ch, .int z_from]) (WS := (WZ_Es cI cJ mr mi mf mg)) (Qf := fun A => va_Qi (fun (r : Int32) (u : Unit) => True) (fun u => QW D cI cJ A ((fun (u : Unit) => (WZ_Es cI cJ mr mi mf mg)) u)) A) (by decide) (Nat.le_of_ble_eq_true rfl) ?_
  intro p e s m below meth c A ls E hr hlk hnm hX hw1 hl2
  have hl3 : lv_has ls 3 [(0, .ref (ad i)), (1, .int z_ch), (2, .int z_from)] := hl2
  refine lv_aload_n (pc := 0) E.1 E.2.1 dJ0_indexOf_7cf53_0 rfl (lv_at hl3 0 rfl) ?_
  refine ck_i (pc := 1) (ws' := (fun (u : Unit) => (WZ_Es cI cJ mr mi mf mg))) [] hw1 rfl (fun hC_ => (rn_VS (As := []) (rest := []) E hw1 (t_isLatin1 l D cI cJ _ mr mi mf mg ad av tf i hi) (gdV q_747 q_748 q_749 q_163 q_750) hdV_J0_isLatin1_aae02 ⟨rfl, rfl⟩ ⟨(Nat.le_of_ble_eq_true rfl), (Nat.le_of_ble_eq_true rfl)⟩ ⟨(Nat.le_of_ble_eq_true rfl), (Nat.le_of_ble_eq_true rfl)⟩ xS_b (xS_at hX hw1.2.2.1 (va_free hw1.2.1 hw1.2.2.1 hw1.2.2.2 _ hC_)) hX.1 hi rfl rfl _ hC_ (nd_T _ 0) rfl hl3.1 rfl (Nat.le_of_ble_eq_true rfl) dJ0_indexOf_7cf53_1)) rfl (fun _ => rfl) (fun _ => rfl) (fun r_5 u_4 H1 locs hp hw6 => ?_)
  generalize H1 = H at hw6 ⊢
  have hw7 : WD D A s.heap (WZ_Es cI cJ mr mi mf mg) H locs := hw6
  have hp_8 := hp
  rcases hp_8 with rfl
  · skip
    refine lv_if_eq (pc := 4) (tgt := 23) E.1 E.2.1 dJ0_indexOf_7cf53_4 (by decide) (fun c_9 => absurd c_9 (mneE (a := 1) (b := 0) (by decide +kernel) (by decide +kernel) (by omega))) (fun _ => ?_)
    refine lv_aload_n (pc := 7) E.1 E.2.1 dJ0_indexOf_7cf53_7 rfl (lv_at hl3 0 rfl) ?_
    refine x_sf (pc := 8) E hw7 (hX.1.1 i hi).2.2.1 q_2145 rfl dJ0_indexOf_7cf53_8 ?_
    refine lv_iload_n (pc := 11) E.1 E.2.1 dJ0_indexOf_7cf53_11 rfl (lv_at hl3 1 rfl) ?_
    refine lv_iload_n (pc := 12) E.1 E.2.1 dJ0_indexOf_7cf53_12 rfl (lv_at hl3 2 rfl) ?_
    refine lv_aload_n (pc := 13) E.1 E.2.1 dJ0_indexOf_7cf53_13 rfl (lv_at hl3 0 rfl) ?_
    refine ck_i (pc := 14) (ws' := (fun (u : Unit) => (WZ_Es cI cJ mr mi mf mg))) [] hw7 rfl (fun hC_ => (rn_VS (As := []) (rest := [.int z_from, .int z_ch, .ref (av i)]) E hw7 (t_length l D cI cJ _ mr mi mf mg ad av tf i hi) (gdV q_797 q_734 q_735 q_163 q_736) hdV_J0_length_8abf5 ⟨rfl, rfl⟩ ⟨(Nat.le_of_ble_eq_true rfl), (Nat.le_of_ble_eq_true rfl)⟩ ⟨(Nat.le_of_ble_eq_true rfl), (Nat.le_of_ble_eq_true rfl)⟩ xS_b (xS_at hX hw7.2.2.1 (va_free hw7.2.1 hw7.2.2.1 hw7.2.2.2 _ hC_)) hX.1 hi rfl rfl _ hC_ (nd_T _ 0) rfl hl3.1 rfl (Nat.le_of_ble_eq_true rfl) dJ0_indexOf_7cf53_14)) rfl (fun _ => rfl) (fun _ => rfl) (fun r_11 u_10 H1 locs hp hw12 => ?_)
    generalize H1 = H at hw12 ⊢
    have hw13 : WD D A s.heap (WZ_Es cI cJ mr mi mf mg) H locs := hw12
    obtain ⟨hp_14, hp_15, hp_16⟩ := hp
    have hp_14 : r_11.toInt = (sLen.getD i 0 : Int) := hp_14
    have hp_15 : 0 ≤ r_11.toInt := hp_15
    have hp_16 : r_11.toInt ≤ 75 := hp_16
    refine ck_i (pc := 17) (ws' := (fun (u : Unit) => (WZ_Es cI cJ mr mi mf mg))) [] hw13 rfl (fun hC_ => (rn_S2 (As := [.ref (av i), .int z_ch, .int z_from, .int r_11]) (rest := []) E hw13 (t_indexOfL l D cI cJ _ mr mi mf mg z_ch z_from r_11 ad av tf i hi) q_800 q_164 q_798 q_799 hdS_J1_indexOf_4cfef ⟨rfl, rfl⟩ ⟨(Nat.le_of_ble_eq_true rfl), (Nat.le_of_ble_eq_true rfl)⟩ ⟨(Nat.le_of_ble_eq_true rfl), (Nat.le_of_ble_eq_true rfl)⟩ xS_b (xS_at hX hw13.2.2.1 (va_free hw13.2.1 hw13.2.2.1 hw13.2.2.2 _ hC_)) _ hC_ (nd_T _ 0) rfl hl3.1 rfl (Nat.le_of_ble_eq_true rfl) dJ0_indexOf_7cf53_17)) rfl (fun _ => rfl) (fun _ => rfl) (fun r_18 u_17 H1 locs hp hw19 => ?_)
    generalize H1 = H at hw19 ⊢
    have hw20 : WD D A s.heap (WZ_Es cI cJ mr mi mf mg) H locs := hw19
    refine lv_goto (pc := 20) (tgt := 36) E.1 E.2.1 dJ0_indexOf_7cf53_20 (by decide) ?_
    exact em_i (w1 := (fun (u : Unit) => (WZ_Es cI cJ mr mi mf mg))) E hr hlk () hw20 trivial (Nat.le_of_ble_eq_true rfl) (Nat.le_of_ble_eq_true rfl) dJ0_indexOf_7cf53_36
set_option maxHeartbeats 4000000 in
set_option maxRecDepth 100000 in
theorem t_indexOf (l : Launch) (D : va_G) (cI cJ : ClassId) (sz : Nat) (mr : Nat → Nat) (mi : Nat → Int32) (mf : Nat → Nat → Int32) (mg : Nat → Nat → Int64) (z_ch : Int32) (ad av : Nat → Nat) (tf : Value) (i : Nat) (hi : i < 7)  : Met l yJ0_indexOf_0f7a4 (Cond.code yJ0_indexOf_0f7a4 cJ0_indexOf_0f7a4 2 (some .int) :: GW) ({ frames := 4, cells := 0, slots := 0, locals := 110 } : Room) (va_Pc [.ref (ad i), .int z_ch] (PW D cI cJ sz (WZ_Es cI cJ mr mi mf mg) (xS ad av tf (va_A (WZ_Es cI cJ mr mi mf mg) sz)))) (va_Qi (fun (r : Int32) (u : Unit) => True) (fun u => QW D cI cJ (va_A (WZ_Es cI cJ mr mi mf mg) sz) ((fun (u : Unit) => (WZ_Es cI cJ mr mi mf mg)) u)) (va_A (WZ_Es cI cJ mr mi mf mg) sz)) 0 0 (va_A (WZ_Es cI cJ mr mi mf mg) sz) := by
  refine mk_metA (X := fun A => xS ad av tf A) (y := yJ0_indexOf_0f7a4) (bytes := cJ0_indexOf_0f7a4) (maxL := 2) (avs := [.ref (ad i), .int z_ch]) (WS := (WZ_Es cI cJ mr mi mf mg)) (Qf := fun A => va_Qi (fun (r : Int32) (u : Unit) => True) (fun u => QW D cI cJ A ((fun (u : Unit) => (WZ_Es cI cJ mr mi mf mg)) u)) A) (by decide) (Nat.le_of_ble_eq_true rfl) ?_
  intro p e s m below meth c A ls E hr hlk hnm hX hw1 hl2
  have hl3 : lv_has ls 2 [(0, .ref (ad i)), (1, .int z_ch)] := hl2
  refine lv_aload_n (pc := 0) E.1 E.2.1 dJ0_indexOf_0f7a4_0 rfl (lv_at hl3 0 rfl) ?_
  refine lv_iload_n (pc := 1) E.1 E.2.1 dJ0_indexOf_0f7a4_1 rfl (lv_at hl3 1 rfl) ?_
  refine lv_iconst (pc := 2) (v := 0) E.1 E.2.1 dJ0_indexOf_0f7a4_2 (by decide +kernel) ?_
  refine ck_i (pc := 3) (ws' := (fun (u : Unit) => (WZ_Es cI cJ mr mi mf mg))) [] hw1 rfl (fun hC_ => (rn_VS (As := [.int z_ch, .int 0]) (rest := []) E hw1 (t_indexOf2 l D cI cJ _ mr mi mf mg z_ch 0 ad av tf i hi) (gdV q_793 q_794 q_795 q_163 q_796) hdV_J0_indexOf_7cf53 ⟨rfl, rfl⟩ ⟨(Nat.le_of_ble_eq_true rfl), (Nat.le_of_ble_eq_true rfl)⟩ ⟨(Nat.le_of_ble_eq_true rfl), (Nat.le_of_ble_eq_true rfl)⟩ xS_b (xS_at hX hw1.2.2.1 (va_free hw1.2.1 hw1.2.2.1 hw1.2.2.2 _ hC_)) hX.1 hi rfl rfl _ hC_ (nd_T _ 0) rfl hl3.1 rfl (Nat.le_of_ble_eq_true rfl) dJ0_indexOf_0f7a4_3)) rfl (fun _ => rfl) (fun _ => rfl) (fun r_5 u_4 H1 locs hp hw6 => ?_)
  generalize H1 = H at hw6 ⊢
  have hw7 : WD D A s.heap (WZ_Es cI cJ mr mi mf mg) H locs := hw6
  exact em_i (w1 := (fun (u : Unit) => (WZ_Es cI cJ mr mi mf mg))) E hr hlk () hw7 trivial (Nat.le_of_ble_eq_true rfl) (Nat.le_of_ble_eq_true rfl) dJ0_indexOf_0f7a4_6
set_option maxHeartbeats 4000000 in
set_option maxRecDepth 100000 in
theorem t_wordsOf (l : Launch) (D : va_G) (cI cJ : ClassId) (sz : Nat) (mr : Nat → Nat) (mi : Nat → Int32) (mf : Nat → Nat → Int32) (mg : Nat → Nat → Int64) (z_text : Int32) (ad av : Nat → Nat) (tf : Value)  : Met l yX8_wordsOf (Cond.code yX8_wordsOf cX8_wordsOf 1 (some (.object "java/lang/String")) :: GW) ({ frames := 1, cells := 0, slots := 0, locals := 40 } : Room) (va_Pc [.int z_text] (PW D cI cJ sz (WZ_Es cI cJ mr mi mf mg) (xT8 ad av tf (va_A (WZ_Es cI cJ mr mi mf mg) sz)))) (va_Qr (fun (u : Int32) => (0 ≤ u.toInt) ∧ (u.toInt ≤ 6)) (fun u ra t => ra = ad (ti u) ∧ QW D cI cJ (va_A (WZ_Es cI cJ mr mi mf mg) sz) (WZ_Es cI cJ mr mi mf mg) t) (va_A (WZ_Es cI cJ mr mi mf mg) sz)) 0 0 (va_A (WZ_Es cI cJ mr mi mf mg) sz) := by
  refine mk_metA (X := fun A => xT8 ad av tf A) (y := yX8_wordsOf) (bytes := cX8_wordsOf) (maxL := 1) (avs := [.int z_text]) (WS := (WZ_Es cI cJ mr mi mf mg)) (Qf := fun A => va_Qr (fun (u : Int32) => (0 ≤ u.toInt) ∧ (u.toInt ≤ 6)) (fun u ra t => ra = ad (ti u) ∧ QW D cI cJ A (WZ_Es cI cJ mr mi mf mg) t) A) (by decide) (Nat.le_of_ble_eq_true rfl) ?_
  intro p e s m below meth c A ls E hr hlk hnm hX hw1 hl2
  have hl3 : lv_has ls 1 [(0, .int z_text)] := hl2
  refine lv_iload_n (pc := 0) E.1 E.2.1 dX8_wordsOf_0 rfl (lv_at hl3 0 rfl) ?_
  rcases swt (x := z_text) 0 4 with hsw_4 | ⟨hsw_4k, hsw_41, hsw_42, hsw_4⟩
  · skip
    refine lv_tableOut (pc := 1) (tgt := 51) E.1 E.2.1 dX8_wordsOf_1 hsw_4 (by decide) ?_
    refine x_lds (pc := 51) E hX.2.1 dX8_wordsOf_51 ?_
    exact em_tx (k := 0) E hr hlk hw1 (by decide +kernel) rfl (Nat.le_of_ble_eq_true rfl) (Nat.le_of_ble_eq_true rfl) dX8_wordsOf_53
  · skip
    rcases (show hsw_4k = 0 ∨ hsw_4k = 1 ∨ hsw_4k = 2 ∨ hsw_4k = 3 ∨ hsw_4k = 4 from by omega) with rfl | rfl | rfl | rfl | rfl
    · skip
      have hsw_4v : z_text.toInt = 0 := hsw_4
      have hsw_4e : z_text = 0 := Int32.toInt_inj.mp (by rw [hsw_4]; decide +kernel)
      refine lv_tableIn (pc := 1) (off := 35) (tgt := 36) E.1 E.2.1 dX8_wordsOf_1 (by rw [hsw_4e]; decide +kernel) (by rw [hsw_4e]; decide +kernel) (by rw [hsw_4e]; decide +kernel) (by decide) ?_
      refine x_lds (pc := 36) E hX.2.2.1 dX8_wordsOf_36 ?_
      exact em_tx (k := 1) E hr hlk hw1 (by decide +kernel) rfl (Nat.le_of_ble_eq_true rfl) (Nat.le_of_ble_eq_true rfl) dX8_wordsOf_38
    · skip
      have hsw_4v : z_text.toInt = 1 := hsw_4
      have hsw_4e : z_text = 1 := Int32.toInt_inj.mp (by rw [hsw_4]; decide +kernel)
      refine lv_tableIn (pc := 1) (off := 38) (tgt := 39) E.1 E.2.1 dX8_wordsOf_1 (by rw [hsw_4e]; decide +kernel) (by rw [hsw_4e]; decide +kernel) (by rw [hsw_4e]; decide +kernel) (by decide) ?_
      refine x_lds (pc := 39) E hX.2.2.2.1 dX8_wordsOf_39 ?_
      exact em_tx (k := 2) E hr hlk hw1 (by decide +kernel) rfl (Nat.le_of_ble_eq_true rfl) (Nat.le_of_ble_eq_true rfl) dX8_wordsOf_41
    · skip
      have hsw_4v : z_text.toInt = 2 := hsw_4
      have hsw_4e : z_text = 2 := Int32.toInt_inj.mp (by rw [hsw_4]; decide +kernel)
      refine lv_tableIn (pc := 1) (off := 41) (tgt := 42) E.1 E.2.1 dX8_wordsOf_1 (by rw [hsw_4e]; decide +kernel) (by rw [hsw_4e]; decide +kernel) (by rw [hsw_4e]; decide +kernel) (by decide) ?_
      refine x_lds (pc := 42) E hX.2.2.2.2.1 dX8_wordsOf_42 ?_
      exact em_tx (k := 3) E hr hlk hw1 (by decide +kernel) rfl (Nat.le_of_ble_eq_true rfl) (Nat.le_of_ble_eq_true rfl) dX8_wordsOf_44
    · skip
      have hsw_4v : z_text.toInt = 3 := hsw_4
      have hsw_4e : z_text = 3 := Int32.toInt_inj.mp (by rw [hsw_4]; decide +kernel)
      refine lv_tableIn (pc := 1) (off := 44) (tgt := 45) E.1 E.2.1 dX8_wordsOf_1 (by rw [hsw_4e]; decide +kernel) (by rw [hsw_4e]; decide +kernel) (by rw [hsw_4e]; decide +kernel) (by decide) ?_
      refine x_lds (pc := 45) E hX.2.2.2.2.2.1 dX8_wordsOf_45 ?_
      exact em_tx (k := 4) E hr hlk hw1 (by decide +kernel) rfl (Nat.le_of_ble_eq_true rfl) (Nat.le_of_ble_eq_true rfl) dX8_wordsOf_47
    · skip
      have hsw_4v : z_text.toInt = 4 := hsw_4
      have hsw_4e : z_text = 4 := Int32.toInt_inj.mp (by rw [hsw_4]; decide +kernel)
      refine lv_tableIn (pc := 1) (off := 47) (tgt := 48) E.1 E.2.1 dX8_wordsOf_1 (by rw [hsw_4e]; decide +kernel) (by rw [hsw_4e]; decide +kernel) (by rw [hsw_4e]; decide +kernel) (by decide) ?_
      refine x_lds (pc := 48) E hX.2.2.2.2.2.2.1 dX8_wordsOf_48 ?_
      exact em_tx (k := 5) E hr hlk hw1 (by decide +kernel) rfl (Nat.le_of_ble_eq_true rfl) (Nat.le_of_ble_eq_true rfl) dX8_wordsOf_50
set_option maxHeartbeats 4000000 in
set_option maxRecDepth 100000 in
theorem t_wordNumber (l : Launch) (D : va_G) (cI cJ : ClassId) (sz : Nat) (mr : Nat → Nat) (mi : Nat → Int32) (mf : Nat → Nat → Int32) (mg : Nat → Nat → Int64)  (ad av : Nat → Nat) (tf : Value) (h0 : 0 ≤ (mi 2).toInt ∧ (mi 2).toInt ≤ 400) (h1 : 0 ≤ (mi 4).toInt) (h2 : (mi 4).toInt ≤ (mi 2).toInt) (h3 : 0 ≤ (mi 3).toInt ∧ (mi 3).toInt ≤ 6) (h4 : 0 ≤ (mi 7).toInt) (h5 : (mi 7).toInt ≤ (mi 4).toInt) : Met l yX8_wordNumber (Cond.code yX8_wordNumber cX8_wordNumber 6 (some .int) :: GW) ({ frames := 5, cells := 0, slots := 0, locals := 125 } : Room) (va_Pc [.ref (mr 0)] (PW D cI cJ sz (WZ_Tape cI cJ ad mr mi mf mg) (xT8 ad av tf (va_A (WZ_Tape cI cJ ad mr mi mf mg) sz)))) (va_Qi (fun (r : Int32) (u : Unit) => ((-1) ≤ r.toInt) ∧ (r.toInt ≤ 75)) (fun u => QW D cI cJ (va_A (WZ_Tape cI cJ ad mr mi mf mg) sz) ((fun (u : Unit) => (WZ_Tape cI cJ ad mr mi mf mg)) u)) (va_A (WZ_Tape cI cJ ad mr mi mf mg) sz)) 0 0 (va_A (WZ_Tape cI cJ ad mr mi mf mg) sz) := by
  refine mk_metA (X := fun A => xT8 ad av tf A) (y := yX8_wordNumber) (bytes := cX8_wordNumber) (maxL := 6) (avs := [.ref (mr 0)]) (WS := (WZ_Tape cI cJ ad mr mi mf mg)) (Qf := fun A => va_Qi (fun (r : Int32) (u : Unit) => ((-1) ≤ r.toInt) ∧ (r.toInt ≤ 75)) (fun u => QW D cI cJ A ((fun (u : Unit) => (WZ_Tape cI cJ ad mr mi mf mg)) u)) A) (by decide) (Nat.le_of_ble_eq_true rfl) ?_
  intro p e s m below meth c A ls E hr hlk hnm hX hw1 hl2
  have hl3 : lv_has ls 6 [(0, .ref (mr 0))] := hl2
  refine lv_iconst (pc := 0) (v := 0) E.1 E.2.1 dX8_wordNumber_0 (by decide +kernel) ?_
  refine lv_istore_n (pc := 1) (lv' := [(1, .int 0), (0, .ref (mr 0))]) E.1 E.2.1 dX8_wordNumber_1 rfl hl3 (by decide) rfl (fun ls hl4 => ?_)
  refine lv_aload_n (pc := 2) E.1 E.2.1 dX8_wordNumber_2 rfl (lv_at hl4 1 rfl) ?_
  refine x_get (pc := 3) (T := TX8) (N := 9) (ci := 8) (v := .int (mi 7)) E hw1 inX8 0 6 q_549 rfl rfl (by decide) rfl rfl dX8_wordNumber_3 ?_
  refine lv_istore_n (pc := 6) (lv' := [(2, .int (mi 7)), (1, .int 0), (0, .ref (mr 0))]) E.1 E.2.1 dX8_wordNumber_6 rfl hl4 (by decide) rfl (fun ls hl5 => ?_)
  refine lv_iconst (pc := 7) (v := 1) E.1 E.2.1 dX8_wordNumber_7 (by decide +kernel) ?_
  refine lv_istore_n (pc := 8) (lv' := [(3, .int 1), (2, .int (mi 7)), (1, .int 0), (0, .ref (mr 0))]) E.1 E.2.1 dX8_wordNumber_8 rfl hl5 (by decide) rfl (fun ls hl6 => ?_)
  refine lv_iconst (pc := 9) (v := 0) E.1 E.2.1 dX8_wordNumber_9 (by decide +kernel) ?_
  refine lv_istore (pc := 10) (lv' := [(4, .int 0), (3, .int 1), (2, .int (mi 7)), (1, .int 0), (0, .ref (mr 0))]) E.1 E.2.1 dX8_wordNumber_10 hl6 (by decide) rfl (fun ls hl7 => ?_)
  have loop_8 : ∀ (k : Nat) (x_9 : Int32) (x_10 : Int32) (x_11 : Int32) (x_12 : Int32) (H : Heap) (locs : List Loc) (ls : Array Slot), (0 ≤ x_12.toInt) ∧ (x_12.toInt ≤ 75) ∧ (0 ≤ x_9.toInt) ∧ (x_9.toInt ≤ x_12.toInt) ∧ (0 ≤ x_10.toInt) ∧ (x_10.toInt ≤ 400 + x_12.toInt) ∧ (0 ≤ x_11.toInt) ∧ (x_11.toInt ≤ 1) → 75 - x_12.toInt < (k : Int) → WD D A s.heap (WZ_Tape cI cJ ad mr mi mf mg) H locs → lv_has ls 6 [(4, .int x_12), (3, .int x_11), (2, .int x_10), (1, .int x_9), (0, .ref (mr 0))] → W p l e ({ frames := 5, cells := 0, slots := 0, locals := 125 } : Room) s m ([.ref (mr 0)] : List Value).toArray below meth c H locs 0 0 (MQ below (va_Qi (fun (r : Int32) (u : Unit) => ((-1) ≤ r.toInt) ∧ (r.toInt ≤ 75)) (fun u => QW D cI cJ A ((fun (u : Unit) => (WZ_Tape cI cJ ad mr mi mf mg)) u)) A) ([.ref (mr 0)] : List Value).toArray s 0 0 A) (F0 m 12 ls []) := by
    intro k
    induction k with
    | zero =>
      intro x_9 x_10 x_11 x_12 _ _ _ hinv hm
      obtain ⟨hi_12_0, hi_12_1, hi_12_2, hi_12_3, hi_12_4, hi_12_5, hi_12_6, hi_12_7⟩ := hinv
      exact absurd hm (by omega)
    | succ k ih_13 =>
      intro x_9 x_10 x_11 x_12 H locs ls hinv hm hw14 hl15
      obtain ⟨hi_12_0, hi_12_1, hi_12_2, hi_12_3, hi_12_4, hi_12_5, hi_12_6, hi_12_7⟩ := hinv
      refine lv_iload (pc := 12) E.1 E.2.1 dX8_wordNumber_12 (lv_at hl15 0 rfl) ?_
      refine lv_aload_n (pc := 14) E.1 E.2.1 dX8_wordNumber_14 rfl (lv_at hl15 4 rfl) ?_
      refine x_get (pc := 15) (T := TX8) (N := 9) (ci := 8) (v := .ref (ad (ti (mi 3)))) E hw14 inX8 0 2 q_540 rfl rfl (by decide) rfl rfl dX8_wordNumber_15 ?_
      refine ck_i (pc := 18) (ws' := (fun (u : Unit) => (WZ_Tape cI cJ ad mr mi mf mg))) [false, false] hw14 rfl (fun hC_ => (rn_VS (As := []) (rest := [.int x_12]) E hw14 (t_length l D cI cJ _ mr mi mf mg ad av tf (ti (mi 3)) (ti_lt (by omega))) (gdV q_733 q_734 q_735 q_163 q_736) hdV_J0_length_8abf5 ⟨rfl, rfl⟩ ⟨(Nat.le_of_ble_eq_true rfl), (Nat.le_of_ble_eq_true rfl)⟩ ⟨(Nat.le_of_ble_eq_true rfl), (Nat.le_of_ble_eq_true rfl)⟩ xS_b (xS_at hX.1 hw14.2.2.1 (va_free hw14.2.1 hw14.2.2.1 hw14.2.2.2 _ hC_)) hX.1.1 (ti_lt (by omega)) rfl rfl _ hC_ (nd_T _ 0) rfl hl15.1 rfl (Nat.le_of_ble_eq_true rfl) dX8_wordNumber_18)) rfl (fun _ => rfl) (fun _ => rfl) (fun r_17 u_16 H1 locs hp hw18 => ?_)
      generalize H1 = H at hw18 ⊢
      have hw19 : WD D A s.heap (WZ_Tape cI cJ ad mr mi mf mg) H locs := hw18
      obtain ⟨hp_20, hp_21, hp_22⟩ := hp
      have hp_20 : r_17.toInt = (sLen.getD (ti (mi 3)) 0 : Int) := hp_20
      have hp_21 : 0 ≤ r_17.toInt := hp_21
      have hp_22 : r_17.toInt ≤ 75 := hp_22
      refine lv_icmp_ge (pc := 21) (tgt := 107) E.1 E.2.1 dX8_wordNumber_21 (by decide) (fun c_23 => ?_) (fun c_23 => ?_)
      · skip
        have hc_23 := leE (a := r_17.toInt) (b := x_12.toInt) rfl rfl c_23
        refine lv_iload_n (pc := 107) E.1 E.2.1 dX8_wordNumber_107 rfl (lv_at hl15 1 rfl) ?_
        refine lv_if_eq (pc := 108) (tgt := 123) E.1 E.2.1 dX8_wordNumber_108 (by decide) (fun c_24 => ?_) (fun c_24 => ?_)
        · skip
          have hc_24 := eqE (a := x_11.toInt) (b := 0) rfl (by decide +kernel) c_24
          refine lv_iconst (pc := 123) (v := (-1)) E.1 E.2.1 dX8_wordNumber_123 (by decide +kernel) ?_
          exact em_i (w1 := (fun (u : Unit) => (WZ_Tape cI cJ ad mr mi mf mg))) E hr hlk () hw19 ⟨(by show (-1) ≤ ((-1) : Int32).toInt; have k_0 : ((-1) : Int32).toInt = -1 := (by decide +kernel); omega), (by show ((-1) : Int32).toInt ≤ 75; have k_0 : ((-1) : Int32).toInt = -1 := (by decide +kernel); omega)⟩ (Nat.le_of_ble_eq_true rfl) (Nat.le_of_ble_eq_true rfl) dX8_wordNumber_124
        · skip
          have hc_24 := neE (a := x_11.toInt) (b := 0) rfl (by decide +kernel) c_24
          refine lv_iload_n (pc := 111) E.1 E.2.1 dX8_wordNumber_111 rfl (lv_at hl15 2 rfl) ?_
          refine lv_aload_n (pc := 112) E.1 E.2.1 dX8_wordNumber_112 rfl (lv_at hl15 4 rfl) ?_
          refine x_get (pc := 113) (T := TX8) (N := 9) (ci := 8) (v := .int (mi 4)) E hw19 inX8 0 3 q_541 rfl rfl (by decide) rfl rfl dX8_wordNumber_113 ?_
          refine lv_icmp_ne (pc := 116) (tgt := 123) E.1 E.2.1 dX8_wordNumber_116 (by decide) (fun c_25 => ?_) (fun c_25 => ?_)
          · skip
            have hc_25 := neE (a := x_10.toInt) (b := (mi 4).toInt) rfl rfl c_25
            refine lv_iconst (pc := 123) (v := (-1)) E.1 E.2.1 dX8_wordNumber_123 (by decide +kernel) ?_
            exact em_i (w1 := (fun (u : Unit) => (WZ_Tape cI cJ ad mr mi mf mg))) E hr hlk () hw19 ⟨(by show (-1) ≤ ((-1) : Int32).toInt; have k_0 : ((-1) : Int32).toInt = -1 := (by decide +kernel); omega), (by show ((-1) : Int32).toInt ≤ 75; have k_0 : ((-1) : Int32).toInt = -1 := (by decide +kernel); omega)⟩ (Nat.le_of_ble_eq_true rfl) (Nat.le_of_ble_eq_true rfl) dX8_wordNumber_124
          · skip
            have hc_25 := eqE (a := x_10.toInt) (b := (mi 4).toInt) rfl rfl c_25
            refine lv_iload_n (pc := 119) E.1 E.2.1 dX8_wordNumber_119 rfl (lv_at hl15 3 rfl) ?_
            refine lv_goto (pc := 120) (tgt := 124) E.1 E.2.1 dX8_wordNumber_120 (by decide) ?_
            exact em_i (w1 := (fun (u : Unit) => (WZ_Tape cI cJ ad mr mi mf mg))) E hr hlk () hw19 ⟨(by show (-1) ≤ x_9.toInt; omega), (by show x_9.toInt ≤ 75; omega)⟩ (Nat.le_of_ble_eq_true rfl) (Nat.le_of_ble_eq_true rfl) dX8_wordNumber_124
      · skip
        have hc_23 := nleE (a := r_17.toInt) (b := x_12.toInt) rfl rfl c_23
        refine lv_aload_n (pc := 24) E.1 E.2.1 dX8_wordNumber_24 rfl (lv_at hl15 4 rfl) ?_
        refine x_get (pc := 25) (T := TX8) (N := 9) (ci := 8) (v := .ref (ad (ti (mi 3)))) E hw19 inX8 0 2 q_540 rfl rfl (by decide) rfl rfl dX8_wordNumber_25 ?_
        refine lv_iload (pc := 28) E.1 E.2.1 dX8_wordNumber_28 (lv_at hl15 0 rfl) ?_
        refine ck_i (pc := 30) (ws' := (fun (u : Unit) => (WZ_Tape cI cJ ad mr mi mf mg))) [false, false] hw19 rfl (fun hC_ => (rn_VS (As := [.int x_12]) (rest := []) E hw19 (t_charAt l D cI cJ _ mr mi mf mg x_12 ad av tf (ti (mi 3)) (ti_lt (by omega)) hi_12_0 (by show x_12.toInt + 1 ≤ (sLen.getD (ti (mi 3)) 0 : Int); omega)) (gdV q_743 q_744 q_745 q_163 q_746) hdV_J0_charAt_5068e ⟨rfl, rfl⟩ ⟨(Nat.le_of_ble_eq_true rfl), (Nat.le_of_ble_eq_true rfl)⟩ ⟨(Nat.le_of_ble_eq_true rfl), (Nat.le_of_ble_eq_true rfl)⟩ xS_b (xS_at hX.1 hw19.2.2.1 (va_free hw19.2.1 hw19.2.2.1 hw19.2.2.2 _ hC_)) hX.1.1 (ti_lt (by omega)) rfl rfl _ hC_ (nd_T _ 0) rfl hl15.1 rfl (Nat.le_of_ble_eq_true rfl) dX8_wordNumber_30)) rfl (fun _ => rfl) (fun _ => rfl) (fun r_27 u_26 H1 locs hp hw28 => ?_)
        generalize H1 = H at hw28 ⊢
        have hw29 : WD D A s.heap (WZ_Tape cI cJ ad mr mi mf mg) H locs := hw28
        obtain ⟨hp_30, hp_31⟩ := hp
        have hp_30 : 0 ≤ r_27.toInt := hp_30
        have hp_31 : r_27.toInt ≤ 65535 := hp_31
        refine lv_istore (pc := 33) (lv' := [(5, .int r_27), (4, .int x_12), (3, .int x_11), (2, .int x_10), (1, .int x_9), (0, .ref (mr 0))]) E.1 E.2.1 dX8_wordNumber_33 hl15 (by decide) rfl (fun ls hl32 => ?_)
        refine lv_iload (pc := 35) E.1 E.2.1 dX8_wordNumber_35 (lv_at hl32 0 rfl) ?_
        refine lv_bipush (pc := 37) (v := 32) E.1 E.2.1 dX8_wordNumber_37 (by decide +kernel) ?_
        refine lv_icmp_eq (pc := 39) (tgt := 77) E.1 E.2.1 dX8_wordNumber_39 (by decide) (fun c_33 => ?_) (fun c_33 => ?_)
        · skip
          have hc_33 := eqE (a := r_27.toInt) (b := 32) rfl (by decide +kernel) c_33
          refine lv_iload_n (pc := 77) E.1 E.2.1 dX8_wordNumber_77 rfl (lv_at hl32 2 rfl) ?_
          refine lv_if_eq (pc := 78) (tgt := 91) E.1 E.2.1 dX8_wordNumber_78 (by decide) (fun c_34 => ?_) (fun c_34 => ?_)
          · skip
            have hc_34 := eqE (a := x_11.toInt) (b := 0) rfl (by decide +kernel) c_34
            obtain ⟨v_35, ev_35⟩ : ∃ z : Int32, x_9 + Int32.ofInt (1) = z := ⟨_, rfl⟩
            have hv_35 : v_35.toInt = x_9.toInt + (1) := by rw [← ev_35]; exact incE rfl (by decide) (by omega)
            refine lv_iinc (pc := 91) (v := v_35) (lv' := [(1, .int v_35), (5, .int r_27), (4, .int x_12), (3, .int x_11), (2, .int x_10), (0, .ref (mr 0))]) E.1 E.2.1 dX8_wordNumber_91 hl32 (k := 4) rfl ev_35 (by decide) rfl (fun ls hl36 => ?_)
            refine lv_aload_n (pc := 94) E.1 E.2.1 dX8_wordNumber_94 rfl (lv_at hl36 5 rfl) ?_
            refine x_get (pc := 95) (T := TX8) (N := 9) (ci := 8) (v := .int (mi 7)) E hw29 inX8 0 6 q_549 rfl rfl (by decide) rfl rfl dX8_wordNumber_95 ?_
            refine lv_istore_n (pc := 98) (lv' := [(2, .int (mi 7)), (1, .int v_35), (5, .int r_27), (4, .int x_12), (3, .int x_11), (0, .ref (mr 0))]) E.1 E.2.1 dX8_wordNumber_98 rfl hl36 (by decide) rfl (fun ls hl37 => ?_)
            refine lv_iconst (pc := 99) (v := 1) E.1 E.2.1 dX8_wordNumber_99 (by decide +kernel) ?_
            refine lv_istore_n (pc := 100) (lv' := [(3, .int 1), (2, .int (mi 7)), (1, .int v_35), (5, .int r_27), (4, .int x_12), (0, .ref (mr 0))]) E.1 E.2.1 dX8_wordNumber_100 rfl hl37 (by decide) rfl (fun ls hl38 => ?_)
            obtain ⟨v_39, ev_39⟩ : ∃ z : Int32, x_12 + Int32.ofInt (1) = z := ⟨_, rfl⟩
            have hv_39 : v_39.toInt = x_12.toInt + (1) := by rw [← ev_39]; exact incE rfl (by decide) (by omega)
            refine lv_iinc (pc := 101) (v := v_39) (lv' := [(4, .int v_39), (3, .int 1), (2, .int (mi 7)), (1, .int v_35), (5, .int r_27), (0, .ref (mr 0))]) E.1 E.2.1 dX8_wordNumber_101 hl38 (k := 4) rfl ev_39 (by decide) rfl (fun ls hl40 => ?_)
            refine lv_goto (pc := 104) (tgt := 12) E.1 E.2.1 dX8_wordNumber_104 (by decide) ?_
            exact ih_13 v_35 (mi 7) 1 v_39 _ _ _ ⟨(by show 0 ≤ v_39.toInt; omega), (by show v_39.toInt ≤ 75; omega), (by show 0 ≤ v_35.toInt; omega), (by show v_35.toInt ≤ v_39.toInt; omega), h4, (by show (mi 7).toInt ≤ 400 + v_39.toInt; omega), (by show 0 ≤ (1 : Int32).toInt; have k_0 : (1 : Int32).toInt = 1 := (by decide +kernel); omega), (by show (1 : Int32).toInt ≤ 1; have k_0 : (1 : Int32).toInt = 1 := (by decide +kernel); omega)⟩ (by have k_0 : (1 : Int32).toInt = 1 := (by decide +kernel); omega) hw29 (lv_sub hl40 [0, 1, 2, 3, 5] rfl)
          · skip
            have hc_34 := neE (a := x_11.toInt) (b := 0) rfl (by decide +kernel) c_34
            refine lv_iload_n (pc := 81) E.1 E.2.1 dX8_wordNumber_81 rfl (lv_at hl32 3 rfl) ?_
            refine lv_aload_n (pc := 82) E.1 E.2.1 dX8_wordNumber_82 rfl (lv_at hl32 5 rfl) ?_
            refine x_get (pc := 83) (T := TX8) (N := 9) (ci := 8) (v := .int (mi 4)) E hw29 inX8 0 3 q_541 rfl rfl (by decide) rfl rfl dX8_wordNumber_83 ?_
            refine lv_icmp_ne (pc := 86) (tgt := 91) E.1 E.2.1 dX8_wordNumber_86 (by decide) (fun c_41 => ?_) (fun c_41 => ?_)
            · skip
              have hc_41 := neE (a := x_10.toInt) (b := (mi 4).toInt) rfl rfl c_41
              obtain ⟨v_42, ev_42⟩ : ∃ z : Int32, x_9 + Int32.ofInt (1) = z := ⟨_, rfl⟩
              have hv_42 : v_42.toInt = x_9.toInt + (1) := by rw [← ev_42]; exact incE rfl (by decide) (by omega)
              refine lv_iinc (pc := 91) (v := v_42) (lv' := [(1, .int v_42), (5, .int r_27), (4, .int x_12), (3, .int x_11), (2, .int x_10), (0, .ref (mr 0))]) E.1 E.2.1 dX8_wordNumber_91 hl32 (k := 4) rfl ev_42 (by decide) rfl (fun ls hl43 => ?_)
              refine lv_aload_n (pc := 94) E.1 E.2.1 dX8_wordNumber_94 rfl (lv_at hl43 5 rfl) ?_
              refine x_get (pc := 95) (T := TX8) (N := 9) (ci := 8) (v := .int (mi 7)) E hw29 inX8 0 6 q_549 rfl rfl (by decide) rfl rfl dX8_wordNumber_95 ?_
              refine lv_istore_n (pc := 98) (lv' := [(2, .int (mi 7)), (1, .int v_42), (5, .int r_27), (4, .int x_12), (3, .int x_11), (0, .ref (mr 0))]) E.1 E.2.1 dX8_wordNumber_98 rfl hl43 (by decide) rfl (fun ls hl44 => ?_)
              refine lv_iconst (pc := 99) (v := 1) E.1 E.2.1 dX8_wordNumber_99 (by decide +kernel) ?_
              refine lv_istore_n (pc := 100) (lv' := [(3, .int 1), (2, .int (mi 7)), (1, .int v_42), (5, .int r_27), (4, .int x_12), (0, .ref (mr 0))]) E.1 E.2.1 dX8_wordNumber_100 rfl hl44 (by decide) rfl (fun ls hl45 => ?_)
              obtain ⟨v_46, ev_46⟩ : ∃ z : Int32, x_12 + Int32.ofInt (1) = z := ⟨_, rfl⟩
              have hv_46 : v_46.toInt = x_12.toInt + (1) := by rw [← ev_46]; exact incE rfl (by decide) (by omega)
              refine lv_iinc (pc := 101) (v := v_46) (lv' := [(4, .int v_46), (3, .int 1), (2, .int (mi 7)), (1, .int v_42), (5, .int r_27), (0, .ref (mr 0))]) E.1 E.2.1 dX8_wordNumber_101 hl45 (k := 4) rfl ev_46 (by decide) rfl (fun ls hl47 => ?_)
              refine lv_goto (pc := 104) (tgt := 12) E.1 E.2.1 dX8_wordNumber_104 (by decide) ?_
              exact ih_13 v_42 (mi 7) 1 v_46 _ _ _ ⟨(by show 0 ≤ v_46.toInt; omega), (by show v_46.toInt ≤ 75; omega), (by show 0 ≤ v_42.toInt; omega), (by show v_42.toInt ≤ v_46.toInt; omega), h4, (by show (mi 7).toInt ≤ 400 + v_46.toInt; omega), (by show 0 ≤ (1 : Int32).toInt; have k_0 : (1 : Int32).toInt = 1 := (by decide +kernel); omega), (by show (1 : Int32).toInt ≤ 1; have k_0 : (1 : Int32).toInt = 1 := (by decide +kernel); omega)⟩ (by have k_0 : (1 : Int32).toInt = 1 := (by decide +kernel); omega) hw29 (lv_sub hl47 [0, 1, 2, 3, 5] rfl)
            · skip
              have hc_41 := eqE (a := x_10.toInt) (b := (mi 4).toInt) rfl rfl c_41
              refine lv_iload_n (pc := 89) E.1 E.2.1 dX8_wordNumber_89 rfl (lv_at hl32 4 rfl) ?_
              exact em_i (w1 := (fun (u : Unit) => (WZ_Tape cI cJ ad mr mi mf mg))) E hr hlk () hw29 ⟨(by show (-1) ≤ x_9.toInt; omega), (by show x_9.toInt ≤ 75; omega)⟩ (Nat.le_of_ble_eq_true rfl) (Nat.le_of_ble_eq_true rfl) dX8_wordNumber_90
        · skip
          have hc_33 := neE (a := r_27.toInt) (b := 32) rfl (by decide +kernel) c_33
          refine lv_iload_n (pc := 42) E.1 E.2.1 dX8_wordNumber_42 rfl (lv_at hl32 2 rfl) ?_
          refine lv_if_eq (pc := 43) (tgt := 69) E.1 E.2.1 dX8_wordNumber_43 (by decide) (fun c_48 => ?_) (fun c_48 => ?_)
          · skip
            have hc_48 := eqE (a := x_11.toInt) (b := 0) rfl (by decide +kernel) c_48
            refine lv_iconst (pc := 69) (v := 0) E.1 E.2.1 dX8_wordNumber_69 (by decide +kernel) ?_
            refine lv_istore_n (pc := 70) (lv' := [(3, .int 0), (5, .int r_27), (4, .int x_12), (2, .int x_10), (1, .int x_9), (0, .ref (mr 0))]) E.1 E.2.1 dX8_wordNumber_70 rfl hl32 (by decide) rfl (fun ls hl49 => ?_)
            obtain ⟨v_50, ev_50⟩ : ∃ z : Int32, x_10 + Int32.ofInt (1) = z := ⟨_, rfl⟩
            have hv_50 : v_50.toInt = x_10.toInt + (1) := by rw [← ev_50]; exact incE rfl (by decide) (by omega)
            refine lv_iinc (pc := 71) (v := v_50) (lv' := [(2, .int v_50), (3, .int 0), (5, .int r_27), (4, .int x_12), (1, .int x_9), (0, .ref (mr 0))]) E.1 E.2.1 dX8_wordNumber_71 hl49 (k := 3) rfl ev_50 (by decide) rfl (fun ls hl51 => ?_)
            refine lv_goto (pc := 74) (tgt := 101) E.1 E.2.1 dX8_wordNumber_74 (by decide) ?_
            obtain ⟨v_52, ev_52⟩ : ∃ z : Int32, x_12 + Int32.ofInt (1) = z := ⟨_, rfl⟩
            have hv_52 : v_52.toInt = x_12.toInt + (1) := by rw [← ev_52]; exact incE rfl (by decide) (by omega)
            refine lv_iinc (pc := 101) (v := v_52) (lv' := [(4, .int v_52), (2, .int v_50), (3, .int 0), (5, .int r_27), (1, .int x_9), (0, .ref (mr 0))]) E.1 E.2.1 dX8_wordNumber_101 hl51 (k := 3) rfl ev_52 (by decide) rfl (fun ls hl53 => ?_)
            refine lv_goto (pc := 104) (tgt := 12) E.1 E.2.1 dX8_wordNumber_104 (by decide) ?_
            exact ih_13 x_9 v_50 0 v_52 _ _ _ ⟨(by show 0 ≤ v_52.toInt; omega), (by show v_52.toInt ≤ 75; omega), hi_12_2, (by show x_9.toInt ≤ v_52.toInt; omega), (by show 0 ≤ v_50.toInt; omega), (by show v_50.toInt ≤ 400 + v_52.toInt; omega), (by show 0 ≤ (0 : Int32).toInt; have k_0 : (0 : Int32).toInt = 0 := (by decide +kernel); omega), (by show (0 : Int32).toInt ≤ 1; have k_0 : (0 : Int32).toInt = 0 := (by decide +kernel); omega)⟩ (by have k_0 : (0 : Int32).toInt = 0 := (by decide +kernel); omega) hw29 (lv_sub hl53 [0, 2, 1, 4, 5] rfl)
          · skip
            have hc_48 := neE (a := x_11.toInt) (b := 0) rfl (by decide +kernel) c_48
            refine lv_iload_n (pc := 46) E.1 E.2.1 dX8_wordNumber_46 rfl (lv_at hl32 3 rfl) ?_
            refine lv_aload_n (pc := 47) E.1 E.2.1 dX8_wordNumber_47 rfl (lv_at hl32 5 rfl) ?_
            refine x_get (pc := 48) (T := TX8) (N := 9) (ci := 8) (v := .int (mi 4)) E hw29 inX8 0 3 q_541 rfl rfl (by decide) rfl rfl dX8_wordNumber_48 ?_
            refine lv_icmp_ge (pc := 51) (tgt := 69) E.1 E.2.1 dX8_wordNumber_51 (by decide) (fun c_54 => ?_) (fun c_54 => ?_)
            · skip
              have hc_54 := leE (a := (mi 4).toInt) (b := x_10.toInt) rfl rfl c_54
              refine lv_iconst (pc := 69) (v := 0) E.1 E.2.1 dX8_wordNumber_69 (by decide +kernel) ?_
              refine lv_istore_n (pc := 70) (lv' := [(3, .int 0), (5, .int r_27), (4, .int x_12), (2, .int x_10), (1, .int x_9), (0, .ref (mr 0))]) E.1 E.2.1 dX8_wordNumber_70 rfl hl32 (by decide) rfl (fun ls hl55 => ?_)
              obtain ⟨v_56, ev_56⟩ : ∃ z : Int32, x_10 + Int32.ofInt (1) = z := ⟨_, rfl⟩
              have hv_56 : v_56.toInt = x_10.toInt + (1) := by rw [← ev_56]; exact incE rfl (by decide) (by omega)
              refine lv_iinc (pc := 71) (v := v_56) (lv' := [(2, .int v_56), (3, .int 0), (5, .int r_27), (4, .int x_12), (1, .int x_9), (0, .ref (mr 0))]) E.1 E.2.1 dX8_wordNumber_71 hl55 (k := 3) rfl ev_56 (by decide) rfl (fun ls hl57 => ?_)
              refine lv_goto (pc := 74) (tgt := 101) E.1 E.2.1 dX8_wordNumber_74 (by decide) ?_
              obtain ⟨v_58, ev_58⟩ : ∃ z : Int32, x_12 + Int32.ofInt (1) = z := ⟨_, rfl⟩
              have hv_58 : v_58.toInt = x_12.toInt + (1) := by rw [← ev_58]; exact incE rfl (by decide) (by omega)
              refine lv_iinc (pc := 101) (v := v_58) (lv' := [(4, .int v_58), (2, .int v_56), (3, .int 0), (5, .int r_27), (1, .int x_9), (0, .ref (mr 0))]) E.1 E.2.1 dX8_wordNumber_101 hl57 (k := 3) rfl ev_58 (by decide) rfl (fun ls hl59 => ?_)
              refine lv_goto (pc := 104) (tgt := 12) E.1 E.2.1 dX8_wordNumber_104 (by decide) ?_
              exact ih_13 x_9 v_56 0 v_58 _ _ _ ⟨(by show 0 ≤ v_58.toInt; omega), (by show v_58.toInt ≤ 75; omega), hi_12_2, (by show x_9.toInt ≤ v_58.toInt; omega), (by show 0 ≤ v_56.toInt; omega), (by show v_56.toInt ≤ 400 + v_58.toInt; omega), (by show 0 ≤ (0 : Int32).toInt; have k_0 : (0 : Int32).toInt = 0 := (by decide +kernel); omega), (by show (0 : Int32).toInt ≤ 1; have k_0 : (0 : Int32).toInt = 0 := (by decide +kernel); omega)⟩ (by have k_0 : (0 : Int32).toInt = 0 := (by decide +kernel); omega) hw29 (lv_sub hl59 [0, 2, 1, 4, 5] rfl)
            · skip
              have hc_54 := nleE (a := (mi 4).toInt) (b := x_10.toInt) rfl rfl c_54
              refine lv_aload_n (pc := 54) E.1 E.2.1 dX8_wordNumber_54 rfl (lv_at hl32 5 rfl) ?_
              refine x_get (pc := 55) (T := TX8) (N := 9) (ci := 8) (v := .ref (mr 1)) E hw29 inX8 0 0 q_537 rfl rfl (by decide) rfl rfl dX8_wordNumber_55 ?_
              refine lv_iload_n (pc := 58) E.1 E.2.1 dX8_wordNumber_58 rfl (lv_at hl32 3 rfl) ?_
              refine x_iald (pc := 59) (f := (mf 1)) E hw29 1 rfl (inbE (a := x_10.toInt) rfl (by omega)) dX8_wordNumber_59 ?_
              refine lv_topi (fun v_60 ev_60 => ?_)
              refine lv_iload (pc := 60) E.1 E.2.1 dX8_wordNumber_60 (lv_at hl32 0 rfl) ?_
              refine lv_icmp_ne (pc := 62) (tgt := 69) E.1 E.2.1 dX8_wordNumber_62 (by decide) (fun c_61 => ?_) (fun c_61 => ?_)
              · skip
                have hc_61 := neE (a := v_60.toInt) (b := r_27.toInt) rfl rfl c_61
                refine lv_iconst (pc := 69) (v := 0) E.1 E.2.1 dX8_wordNumber_69 (by decide +kernel) ?_
                refine lv_istore_n (pc := 70) (lv' := [(3, .int 0), (5, .int r_27), (4, .int x_12), (2, .int x_10), (1, .int x_9), (0, .ref (mr 0))]) E.1 E.2.1 dX8_wordNumber_70 rfl hl32 (by decide) rfl (fun ls hl62 => ?_)
                obtain ⟨v_63, ev_63⟩ : ∃ z : Int32, x_10 + Int32.ofInt (1) = z := ⟨_, rfl⟩
                have hv_63 : v_63.toInt = x_10.toInt + (1) := by rw [← ev_63]; exact incE rfl (by decide) (by omega)
                refine lv_iinc (pc := 71) (v := v_63) (lv' := [(2, .int v_63), (3, .int 0), (5, .int r_27), (4, .int x_12), (1, .int x_9), (0, .ref (mr 0))]) E.1 E.2.1 dX8_wordNumber_71 hl62 (k := 3) rfl ev_63 (by decide) rfl (fun ls hl64 => ?_)
                refine lv_goto (pc := 74) (tgt := 101) E.1 E.2.1 dX8_wordNumber_74 (by decide) ?_
                obtain ⟨v_65, ev_65⟩ : ∃ z : Int32, x_12 + Int32.ofInt (1) = z := ⟨_, rfl⟩
                have hv_65 : v_65.toInt = x_12.toInt + (1) := by rw [← ev_65]; exact incE rfl (by decide) (by omega)
                refine lv_iinc (pc := 101) (v := v_65) (lv' := [(4, .int v_65), (2, .int v_63), (3, .int 0), (5, .int r_27), (1, .int x_9), (0, .ref (mr 0))]) E.1 E.2.1 dX8_wordNumber_101 hl64 (k := 3) rfl ev_65 (by decide) rfl (fun ls hl66 => ?_)
                refine lv_goto (pc := 104) (tgt := 12) E.1 E.2.1 dX8_wordNumber_104 (by decide) ?_
                exact ih_13 x_9 v_63 0 v_65 _ _ _ ⟨(by show 0 ≤ v_65.toInt; omega), (by show v_65.toInt ≤ 75; omega), hi_12_2, (by show x_9.toInt ≤ v_65.toInt; omega), (by show 0 ≤ v_63.toInt; omega), (by show v_63.toInt ≤ 400 + v_65.toInt; omega), (by show 0 ≤ (0 : Int32).toInt; have k_0 : (0 : Int32).toInt = 0 := (by decide +kernel); omega), (by show (0 : Int32).toInt ≤ 1; have k_0 : (0 : Int32).toInt = 0 := (by decide +kernel); omega)⟩ (by have k_0 : (0 : Int32).toInt = 0 := (by decide +kernel); omega) hw29 (lv_sub hl66 [0, 2, 1, 4, 5] rfl)
              · skip
                have hc_61 := eqE (a := v_60.toInt) (b := r_27.toInt) rfl rfl c_61
                refine lv_iconst (pc := 65) (v := 1) E.1 E.2.1 dX8_wordNumber_65 (by decide +kernel) ?_
                refine lv_goto (pc := 66) (tgt := 70) E.1 E.2.1 dX8_wordNumber_66 (by decide) ?_
                refine lv_istore_n (pc := 70) (lv' := [(3, .int 1), (5, .int r_27), (4, .int x_12), (2, .int x_10), (1, .int x_9), (0, .ref (mr 0))]) E.1 E.2.1 dX8_wordNumber_70 rfl hl32 (by decide) rfl (fun ls hl67 => ?_)
                obtain ⟨v_68, ev_68⟩ : ∃ z : Int32, x_10 + Int32.ofInt (1) = z := ⟨_, rfl⟩
                have hv_68 : v_68.toInt = x_10.toInt + (1) := by rw [← ev_68]; exact incE rfl (by decide) (by omega)
                refine lv_iinc (pc := 71) (v := v_68) (lv' := [(2, .int v_68), (3, .int 1), (5, .int r_27), (4, .int x_12), (1, .int x_9), (0, .ref (mr 0))]) E.1 E.2.1 dX8_wordNumber_71 hl67 (k := 3) rfl ev_68 (by decide) rfl (fun ls hl69 => ?_)
                refine lv_goto (pc := 74) (tgt := 101) E.1 E.2.1 dX8_wordNumber_74 (by decide) ?_
                obtain ⟨v_70, ev_70⟩ : ∃ z : Int32, x_12 + Int32.ofInt (1) = z := ⟨_, rfl⟩
                have hv_70 : v_70.toInt = x_12.toInt + (1) := by rw [← ev_70]; exact incE rfl (by decide) (by omega)
                refine lv_iinc (pc := 101) (v := v_70) (lv' := [(4, .int v_70), (2, .int v_68), (3, .int 1), (5, .int r_27), (1, .int x_9), (0, .ref (mr 0))]) E.1 E.2.1 dX8_wordNumber_101 hl69 (k := 3) rfl ev_70 (by decide) rfl (fun ls hl71 => ?_)
                refine lv_goto (pc := 104) (tgt := 12) E.1 E.2.1 dX8_wordNumber_104 (by decide) ?_
                exact ih_13 x_9 v_68 1 v_70 _ _ _ ⟨(by show 0 ≤ v_70.toInt; omega), (by show v_70.toInt ≤ 75; omega), hi_12_2, (by show x_9.toInt ≤ v_70.toInt; omega), (by show 0 ≤ v_68.toInt; omega), (by show v_68.toInt ≤ 400 + v_70.toInt; omega), (by show 0 ≤ (1 : Int32).toInt; have k_0 : (1 : Int32).toInt = 1 := (by decide +kernel); omega), (by show (1 : Int32).toInt ≤ 1; have k_0 : (1 : Int32).toInt = 1 := (by decide +kernel); omega)⟩ (by have k_0 : (1 : Int32).toInt = 1 := (by decide +kernel); omega) hw29 (lv_sub hl71 [0, 2, 1, 4, 5] rfl)
  exact loop_8 (Int.toNat (75 - 0) + 1) 0 (mi 7) 1 0 _ _ _ ⟨(by show 0 ≤ (0 : Int32).toInt; have k_0 : (0 : Int32).toInt = 0 := (by decide +kernel); omega), (by show (0 : Int32).toInt ≤ 75; have k_0 : (0 : Int32).toInt = 0 := (by decide +kernel); omega), (by show 0 ≤ (0 : Int32).toInt; have k_0 : (0 : Int32).toInt = 0 := (by decide +kernel); omega), (by show (0 : Int32).toInt ≤ (0 : Int32).toInt; have k_0 : (0 : Int32).toInt = 0 := (by decide +kernel); omega), h4, (by show (mi 7).toInt ≤ 400 + (0 : Int32).toInt; have k_0 : (0 : Int32).toInt = 0 := (by decide +kernel); omega), (by show 0 ≤ (1 : Int32).toInt; have k_0 : (1 : Int32).toInt = 1 := (by decide +kernel); omega), (by show (1 : Int32).toInt ≤ 1; have k_0 : (1 : Int32).toInt = 1 := (by decide +kernel); omega)⟩ (by have k_0 : (0 : Int32).toInt = 0 := (by decide +kernel); have k_2 : (1 : Int32).toInt = 1 := (by decide +kernel); have k_3 : (0 : Int32).toInt = 0 := (by decide +kernel); omega) hw1 (lv_sub hl7 [0, 1, 2, 3, 4] rfl)
set_option maxHeartbeats 4000000 in
set_option maxRecDepth 100000 in
theorem t_step (l : Launch) (D : va_G) (cI cJ : ClassId) (sz : Nat) (mr : Nat → Nat) (mi : Nat → Int32) (mf : Nat → Nat → Int32) (mg : Nat → Nat → Int64)  (ad av : Nat → Nat) (tf : Value) (h0 : 0 ≤ (mi 2).toInt ∧ (mi 2).toInt ≤ 400) (h1 : 0 ≤ (mi 4).toInt) (h2 : (mi 4).toInt ≤ (mi 2).toInt) (h3 : 0 ≤ (mi 3).toInt ∧ (mi 3).toInt ≤ 6) : Met l yX8_step (Cond.code yX8_step cX8_step 2 none :: GW) ({ frames := 6, cells := 0, slots := 0, locals := 150 } : Room) (va_Pc [.ref (mr 0)] (PW D cI cJ sz (WZ_Tape cI cJ ad mr mi mf mg) (xT8 ad av tf (va_A (WZ_Tape cI cJ ad mr mi mf mg) sz)))) (va_Qv (fun (u : Int32 × Int32 × Int32 × Int32) => (0 ≤ u.1.toInt) ∧ (u.1.toInt ≤ (mi 2).toInt)) (fun u => QW D cI cJ (va_A (WZ_Tape cI cJ ad mr mi mf mg) sz) ((fun (u : Int32 × Int32 × Int32 × Int32) => (WZ_Tape cI cJ ad mr (upd (upd (upd (upd mi 4 u.1) 7 u.2.1) 5 u.2.2.1) 6 u.2.2.2) mf mg)) u)) (va_A (WZ_Tape cI cJ ad mr mi mf mg) sz)) 0 0 (va_A (WZ_Tape cI cJ ad mr mi mf mg) sz) := by
  refine mk_metA (X := fun A => xT8 ad av tf A) (y := yX8_step) (bytes := cX8_step) (maxL := 2) (avs := [.ref (mr 0)]) (WS := (WZ_Tape cI cJ ad mr mi mf mg)) (Qf := fun A => va_Qv (fun (u : Int32 × Int32 × Int32 × Int32) => (0 ≤ u.1.toInt) ∧ (u.1.toInt ≤ (mi 2).toInt)) (fun u => QW D cI cJ A ((fun (u : Int32 × Int32 × Int32 × Int32) => (WZ_Tape cI cJ ad mr (upd (upd (upd (upd mi 4 u.1) 7 u.2.1) 5 u.2.2.1) 6 u.2.2.2) mf mg)) u)) A) (by decide) (Nat.le_of_ble_eq_true rfl) ?_
  intro p e s m below meth c A ls E hr hlk hnm hX hw1 hl2
  have hl3 : lv_has ls 2 [(0, .ref (mr 0))] := hl2
  refine lv_aload_n (pc := 0) E.1 E.2.1 dX8_step_0 rfl (lv_at hl3 0 rfl) ?_
  refine x_get (pc := 1) (T := TX8) (N := 9) (ci := 8) (v := .int (mi 8)) E hw1 inX8 0 7 q_550 rfl rfl (by decide) rfl rfl dX8_step_1 ?_
  refine lv_if_eq (pc := 4) (tgt := 8) E.1 E.2.1 dX8_step_4 (by decide) (fun c_4 => ?_) (fun c_4 => ?_)
  · skip
    have hc_4 := eqE (a := (mi 8).toInt) (b := 0) rfl (by decide +kernel) c_4
    have loop_5 : ∀ (k : Nat) (x_6 : Int32) (H : Heap) (locs : List Loc) (ls : Array Slot), (0 ≤ x_6.toInt) ∧ (x_6.toInt ≤ (mi 2).toInt) → (mi 2).toInt - x_6.toInt < (k : Int) → WD D A s.heap (WZ_Tape cI cJ ad mr (upd mi 4 x_6) mf mg) H locs → lv_has ls 2 [(0, .ref (mr 0))] → W p l e ({ frames := 6, cells := 0, slots := 0, locals := 150 } : Room) s m ([.ref (mr 0)] : List Value).toArray below meth c H locs 0 0 (MQ below (va_Qv (fun (u : Int32 × Int32 × Int32 × Int32) => (0 ≤ u.1.toInt) ∧ (u.1.toInt ≤ (mi 2).toInt)) (fun u => QW D cI cJ A ((fun (u : Int32 × Int32 × Int32 × Int32) => (WZ_Tape cI cJ ad mr (upd (upd (upd (upd mi 4 u.1) 7 u.2.1) 5 u.2.2.1) 6 u.2.2.2) mf mg)) u)) A) ([.ref (mr 0)] : List Value).toArray s 0 0 A) (F0 m 8 ls []) := by
      intro k
      induction k with
      | zero =>
        intro x_6 _ _ _ hinv hm
        obtain ⟨hi_6_0, hi_6_1⟩ := hinv
        exact absurd hm (by omega)
      | succ k ih_7 =>
        intro x_6 H locs ls hinv hm hw8 hl9
        obtain ⟨hi_6_0, hi_6_1⟩ := hinv
        refine lv_aload_n (pc := 8) E.1 E.2.1 dX8_step_8 rfl (lv_at hl9 0 rfl) ?_
        refine x_get (pc := 9) (T := TX8) (N := 9) (ci := 8) (v := .int x_6) E hw8 inX8 0 3 q_541 rfl rfl (by decide) rfl rfl dX8_step_9 ?_
        refine lv_aload_n (pc := 12) E.1 E.2.1 dX8_step_12 rfl (lv_at hl9 0 rfl) ?_
        refine x_get (pc := 13) (T := TX8) (N := 9) (ci := 8) (v := .int (mi 2)) E hw8 inX8 0 1 q_538 rfl rfl (by decide) rfl rfl dX8_step_13 ?_
        refine lv_icmp_ge (pc := 16) (tgt := 60) E.1 E.2.1 dX8_step_16 (by decide) (fun c_10 => ?_) (fun c_10 => ?_)
        · skip
          have hc_10 := leE (a := (mi 2).toInt) (b := x_6.toInt) rfl rfl c_10
          refine lv_aload_n (pc := 60) E.1 E.2.1 dX8_step_60 rfl (lv_at hl9 0 rfl) ?_
          refine lv_aload_n (pc := 61) E.1 E.2.1 dX8_step_61 rfl (lv_at hl9 0 rfl) ?_
          refine x_get (pc := 62) (T := TX8) (N := 9) (ci := 8) (v := .int x_6) E hw8 inX8 0 3 q_541 rfl rfl (by decide) rfl rfl dX8_step_62 ?_
          refine x_put (pc := 65) (T := TX8) (N := 9) (ci := 8) (ws' := (WZ_Tape cI cJ ad mr (upd (upd mi 4 x_6) 7 x_6) mf mg)) E hw8 inX8 tyX8_ok nmX8 0 6 q_549 rfl rfl (by decide) rfl rfl rfl rfl (Nat.le_of_ble_eq_true rfl) rfl dX8_step_65 (fun H locs hw11 => ?_)
          refine lv_aload_n (pc := 68) E.1 E.2.1 dX8_step_68 rfl (lv_at hl9 0 rfl) ?_
          refine x_get (pc := 69) (T := TX8) (N := 9) (ci := 8) (v := .int x_6) E hw11 inX8 0 3 q_541 rfl rfl (by decide) rfl rfl dX8_step_69 ?_
          refine lv_aload_n (pc := 72) E.1 E.2.1 dX8_step_72 rfl (lv_at hl9 0 rfl) ?_
          refine x_get (pc := 73) (T := TX8) (N := 9) (ci := 8) (v := .int (mi 2)) E hw11 inX8 0 1 q_538 rfl rfl (by decide) rfl rfl dX8_step_73 ?_
          refine lv_icmp_lt (pc := 76) (tgt := 87) E.1 E.2.1 dX8_step_76 (by decide) (fun c_12 => absurd c_12 (mnltE (a := x_6.toInt) (b := (mi 2).toInt) rfl rfl (by omega))) (fun _ => ?_)
          refine lv_aload_n (pc := 79) E.1 E.2.1 dX8_step_79 rfl (lv_at hl9 0 rfl) ?_
          refine lv_iconst (pc := 80) (v := 0) E.1 E.2.1 dX8_step_80 (by decide +kernel) ?_
          refine x_put (pc := 81) (T := TX8) (N := 9) (ci := 8) (ws' := (WZ_Tape cI cJ ad mr (upd (upd (upd mi 4 x_6) 5 0) 7 x_6) mf mg)) E hw11 inX8 tyX8_ok nmX8 0 4 q_546 rfl rfl (by decide) rfl rfl rfl rfl (Nat.le_of_ble_eq_true rfl) rfl dX8_step_81 (fun H locs hw13 => ?_)
          refine lv_goto (pc := 84) (tgt := 234) E.1 E.2.1 dX8_step_84 (by decide) ?_
          exact em_v (w1 := (fun (u : Int32 × Int32 × Int32 × Int32) => (WZ_Tape cI cJ ad mr (upd (upd (upd (upd mi 4 u.1) 7 u.2.1) 5 u.2.2.1) 6 u.2.2.2) mf mg))) E hr hlk (x_6, x_6, 0, (mi 6)) hw13 ⟨hi_6_0, hi_6_1⟩ (Nat.le_of_ble_eq_true rfl) (Nat.le_of_ble_eq_true rfl) dX8_step_234
        · skip
          have hc_10 := nleE (a := (mi 2).toInt) (b := x_6.toInt) rfl rfl c_10
          refine lv_aload_n (pc := 19) E.1 E.2.1 dX8_step_19 rfl (lv_at hl9 0 rfl) ?_
          refine x_get (pc := 20) (T := TX8) (N := 9) (ci := 8) (v := .ref (mr 1)) E hw8 inX8 0 0 q_537 rfl rfl (by decide) rfl rfl dX8_step_20 ?_
          refine lv_aload_n (pc := 23) E.1 E.2.1 dX8_step_23 rfl (lv_at hl9 0 rfl) ?_
          refine x_get (pc := 24) (T := TX8) (N := 9) (ci := 8) (v := .int x_6) E hw8 inX8 0 3 q_541 rfl rfl (by decide) rfl rfl dX8_step_24 ?_
          refine x_iald (pc := 27) (f := (mf 1)) E hw8 1 rfl (inbE (a := x_6.toInt) rfl (by omega)) dX8_step_27 ?_
          refine lv_topi (fun v_14 ev_14 => ?_)
          refine lv_bipush (pc := 28) (v := 32) E.1 E.2.1 dX8_step_28 (by decide +kernel) ?_
          refine lv_icmp_eq (pc := 30) (tgt := 47) E.1 E.2.1 dX8_step_30 (by decide) (fun c_15 => ?_) (fun c_15 => ?_)
          · skip
            have hc_15 := eqE (a := v_14.toInt) (b := 32) rfl (by decide +kernel) c_15
            refine lv_aload_n (pc := 47) E.1 E.2.1 dX8_step_47 rfl (lv_at hl9 0 rfl) ?_
            refine lv_dup (pc := 48) E.1 E.2.1 dX8_step_48 rfl ?_
            refine x_get (pc := 49) (T := TX8) (N := 9) (ci := 8) (v := .int x_6) E hw8 inX8 0 3 q_541 rfl rfl (by decide) rfl rfl dX8_step_49 ?_
            refine lv_iconst (pc := 52) (v := 1) E.1 E.2.1 dX8_step_52 (by decide +kernel) ?_
            refine lv_iadd (pc := 53) E.1 E.2.1 dX8_step_53 ?_
            refine lv_topi (fun v_16 ev_16 => ?_)
            have hv_16 : v_16.toInt = x_6.toInt + 1 := by rw [ev_16]; exact addE rfl (by decide +kernel) (by omega)
            refine x_put (pc := 54) (T := TX8) (N := 9) (ci := 8) (ws' := (WZ_Tape cI cJ ad mr (upd mi 4 v_16) mf mg)) E hw8 inX8 tyX8_ok nmX8 0 3 q_541 rfl rfl (by decide) rfl rfl rfl rfl (Nat.le_of_ble_eq_true rfl) rfl dX8_step_54 (fun H locs hw17 => ?_)
            refine lv_goto (pc := 57) (tgt := 8) E.1 E.2.1 dX8_step_57 (by decide) ?_
            exact ih_7 v_16 _ _ _ ⟨(by show 0 ≤ v_16.toInt; omega), (by show v_16.toInt ≤ (mi 2).toInt; omega)⟩ (by omega) hw17 (lv_sub hl9 [0] rfl)
          · skip
            have hc_15 := neE (a := v_14.toInt) (b := 32) rfl (by decide +kernel) c_15
            refine lv_aload_n (pc := 33) E.1 E.2.1 dX8_step_33 rfl (lv_at hl9 0 rfl) ?_
            refine x_get (pc := 34) (T := TX8) (N := 9) (ci := 8) (v := .ref (mr 1)) E hw8 inX8 0 0 q_537 rfl rfl (by decide) rfl rfl dX8_step_34 ?_
            refine lv_aload_n (pc := 37) E.1 E.2.1 dX8_step_37 rfl (lv_at hl9 0 rfl) ?_
            refine x_get (pc := 38) (T := TX8) (N := 9) (ci := 8) (v := .int x_6) E hw8 inX8 0 3 q_541 rfl rfl (by decide) rfl rfl dX8_step_38 ?_
            refine x_iald (pc := 41) (f := (mf 1)) E hw8 1 rfl (inbE (a := x_6.toInt) rfl (by omega)) dX8_step_41 ?_
            refine lv_topi (fun v_18 ev_18 => ?_)
            have hsv_18 : v_18.toInt = v_14.toInt := by rw [ev_18, ev_14]
            refine lv_bipush (pc := 42) (v := 10) E.1 E.2.1 dX8_step_42 (by decide +kernel) ?_
            refine lv_icmp_ne (pc := 44) (tgt := 60) E.1 E.2.1 dX8_step_44 (by decide) (fun c_19 => ?_) (fun c_19 => ?_)
            · skip
              have hc_19 := neE (a := v_18.toInt) (b := 10) rfl (by decide +kernel) c_19
              refine lv_aload_n (pc := 60) E.1 E.2.1 dX8_step_60 rfl (lv_at hl9 0 rfl) ?_
              refine lv_aload_n (pc := 61) E.1 E.2.1 dX8_step_61 rfl (lv_at hl9 0 rfl) ?_
              refine x_get (pc := 62) (T := TX8) (N := 9) (ci := 8) (v := .int x_6) E hw8 inX8 0 3 q_541 rfl rfl (by decide) rfl rfl dX8_step_62 ?_
              refine x_put (pc := 65) (T := TX8) (N := 9) (ci := 8) (ws' := (WZ_Tape cI cJ ad mr (upd (upd mi 4 x_6) 7 x_6) mf mg)) E hw8 inX8 tyX8_ok nmX8 0 6 q_549 rfl rfl (by decide) rfl rfl rfl rfl (Nat.le_of_ble_eq_true rfl) rfl dX8_step_65 (fun H locs hw20 => ?_)
              refine lv_aload_n (pc := 68) E.1 E.2.1 dX8_step_68 rfl (lv_at hl9 0 rfl) ?_
              refine x_get (pc := 69) (T := TX8) (N := 9) (ci := 8) (v := .int x_6) E hw20 inX8 0 3 q_541 rfl rfl (by decide) rfl rfl dX8_step_69 ?_
              refine lv_aload_n (pc := 72) E.1 E.2.1 dX8_step_72 rfl (lv_at hl9 0 rfl) ?_
              refine x_get (pc := 73) (T := TX8) (N := 9) (ci := 8) (v := .int (mi 2)) E hw20 inX8 0 1 q_538 rfl rfl (by decide) rfl rfl dX8_step_73 ?_
              refine lv_icmp_lt (pc := 76) (tgt := 87) E.1 E.2.1 dX8_step_76 (by decide) (fun _ => ?_) (fun c_21 => absurd (mltE (a := x_6.toInt) (b := (mi 2).toInt) rfl rfl (by omega)) c_21)
              refine lv_aload_n (pc := 87) E.1 E.2.1 dX8_step_87 rfl (lv_at hl9 0 rfl) ?_
              refine x_get (pc := 88) (T := TX8) (N := 9) (ci := 8) (v := .ref (mr 1)) E hw20 inX8 0 0 q_537 rfl rfl (by decide) rfl rfl dX8_step_88 ?_
              refine lv_aload_n (pc := 91) E.1 E.2.1 dX8_step_91 rfl (lv_at hl9 0 rfl) ?_
              refine x_get (pc := 92) (T := TX8) (N := 9) (ci := 8) (v := .int x_6) E hw20 inX8 0 3 q_541 rfl rfl (by decide) rfl rfl dX8_step_92 ?_
              refine x_iald (pc := 95) (f := (mf 1)) E hw20 1 rfl (inbE (a := x_6.toInt) rfl (by omega)) dX8_step_95 ?_
              refine lv_topi (fun v_22 ev_22 => ?_)
              have hsv_22 : v_22.toInt = v_18.toInt := by rw [ev_22, ev_18]
              refine ck_i (pc := 96) (ws' := (fun (u : Unit) => (WZ_Tape cI cJ ad mr (upd (upd mi 4 x_6) 7 x_6) mf mg))) [false, false] hw20 rfl (fun hC_ => (rn_S (As := [.int v_22]) (rest := []) E hw20 (t_isLetter l D cI cJ _ mr (upd (upd mi 4 x_6) 7 x_6) mf mg v_22) (gdS q_726 q_727 q_160 q_728) hdV_X8_isLetter ⟨rfl, rfl⟩ ⟨(Nat.le_of_ble_eq_true rfl), (Nat.le_of_ble_eq_true rfl)⟩ ⟨(Nat.le_of_ble_eq_true rfl), (Nat.le_of_ble_eq_true rfl)⟩ xT_b xT_at _ hC_ (nd_T _ 0) rfl hl9.1 rfl (Nat.le_of_ble_eq_true rfl) dX8_step_96)) rfl (fun _ => rfl) (fun _ => rfl) (fun r_24 u_23 H1 locs hp hw25 => ?_)
              generalize H1 = H at hw25 ⊢
              have hw26 : WD D A s.heap (WZ_Tape cI cJ ad mr (upd (upd mi 4 x_6) 7 x_6) mf mg) H locs := hw25
              obtain ⟨hp_27, hp_28⟩ := hp
              have hp_27 : 0 ≤ r_24.toInt := hp_27
              have hp_28 : r_24.toInt ≤ 1 := hp_28
              refine lv_if_eq (pc := 99) (tgt := 167) E.1 E.2.1 dX8_step_99 (by decide) (fun c_29 => ?_) (fun c_29 => ?_)
              · skip
                have hc_29 := eqE (a := r_24.toInt) (b := 0) rfl (by decide +kernel) c_29
                refine lv_aload_n (pc := 167) E.1 E.2.1 dX8_step_167 rfl (lv_at hl9 0 rfl) ?_
                refine x_get (pc := 168) (T := TX8) (N := 9) (ci := 8) (v := .ref (mr 1)) E hw26 inX8 0 0 q_537 rfl rfl (by decide) rfl rfl dX8_step_168 ?_
                refine lv_aload_n (pc := 171) E.1 E.2.1 dX8_step_171 rfl (lv_at hl9 0 rfl) ?_
                refine x_get (pc := 172) (T := TX8) (N := 9) (ci := 8) (v := .int x_6) E hw26 inX8 0 3 q_541 rfl rfl (by decide) rfl rfl dX8_step_172 ?_
                refine x_iald (pc := 175) (f := (mf 1)) E hw26 1 rfl (inbE (a := x_6.toInt) rfl (by omega)) dX8_step_175 ?_
                refine lv_topi (fun v_30 ev_30 => ?_)
                have hsv_30 : v_30.toInt = v_22.toInt := by rw [ev_30, ev_22]
                refine ck_i (pc := 176) (ws' := (fun (u : Unit) => (WZ_Tape cI cJ ad mr (upd (upd mi 4 x_6) 7 x_6) mf mg))) [false, false] hw26 rfl (fun hC_ => (rn_S (As := [.int v_30]) (rest := []) E hw26 (t_isDigit l D cI cJ _ mr (upd (upd mi 4 x_6) 7 x_6) mf mg v_30) (gdS q_781 q_782 q_160 q_783) hdV_X8_isDigit ⟨rfl, rfl⟩ ⟨(Nat.le_of_ble_eq_true rfl), (Nat.le_of_ble_eq_true rfl)⟩ ⟨(Nat.le_of_ble_eq_true rfl), (Nat.le_of_ble_eq_true rfl)⟩ xT_b xT_at _ hC_ (nd_T _ 0) rfl hl9.1 rfl (Nat.le_of_ble_eq_true rfl) dX8_step_176)) rfl (fun _ => rfl) (fun _ => rfl) (fun r_32 u_31 H1 locs hp hw33 => ?_)
                generalize H1 = H at hw33 ⊢
                have hw34 : WD D A s.heap (WZ_Tape cI cJ ad mr (upd (upd mi 4 x_6) 7 x_6) mf mg) H locs := hw33
                obtain ⟨hp_35, hp_36⟩ := hp
                have hp_35 : 0 ≤ r_32.toInt := hp_35
                have hp_36 : r_32.toInt ≤ 1 := hp_36
                refine lv_if_eq (pc := 179) (tgt := 189) E.1 E.2.1 dX8_step_179 (by decide) (fun c_37 => ?_) (fun c_37 => ?_)
                · skip
                  have hc_37 := eqE (a := r_32.toInt) (b := 0) rfl (by decide +kernel) c_37
                  refine lv_aload_n (pc := 189) E.1 E.2.1 dX8_step_189 rfl (lv_at hl9 0 rfl) ?_
                  refine x_lds (pc := 190) E hX.2.2.2.2.2.2.2 dX8_step_190 ?_
                  refine lv_aload_n (pc := 192) E.1 E.2.1 dX8_step_192 rfl (lv_at hl9 0 rfl) ?_
                  refine x_get (pc := 193) (T := TX8) (N := 9) (ci := 8) (v := .ref (mr 1)) E hw34 inX8 0 0 q_537 rfl rfl (by decide) rfl rfl dX8_step_193 ?_
                  refine lv_aload_n (pc := 196) E.1 E.2.1 dX8_step_196 rfl (lv_at hl9 0 rfl) ?_
                  refine x_get (pc := 197) (T := TX8) (N := 9) (ci := 8) (v := .int x_6) E hw34 inX8 0 3 q_541 rfl rfl (by decide) rfl rfl dX8_step_197 ?_
                  refine x_iald (pc := 200) (f := (mf 1)) E hw34 1 rfl (inbE (a := x_6.toInt) rfl (by omega)) dX8_step_200 ?_
                  refine lv_topi (fun v_38 ev_38 => ?_)
                  have hsv_38 : v_38.toInt = v_30.toInt := by rw [ev_38, ev_30]
                  refine lv_i2c (pc := 201) E.1 E.2.1 dX8_step_201 rfl ?_
                  refine lv_topi (fun v_39 ev_39 => ?_)
                  have hbv_39 : 0 ≤ v_39.toInt ∧ v_39.toInt ≤ 65535 := by rw [ev_39]; exact i2c_b _
                  refine ck_i (pc := 202) (ws' := (fun (u : Unit) => (WZ_Tape cI cJ ad mr (upd (upd mi 4 x_6) 7 x_6) mf mg))) [false, false] hw34 rfl (fun hC_ => (rn_VS (As := [.int v_39]) (rest := [.ref (mr 0)]) E hw34 (t_indexOf l D cI cJ _ mr (upd (upd mi 4 x_6) 7 x_6) mf mg v_39 ad av tf 6 (by decide)) (gdV q_789 q_790 q_791 q_163 q_792) hdV_J0_indexOf_0f7a4 ⟨rfl, rfl⟩ ⟨(Nat.le_of_ble_eq_true rfl), (Nat.le_of_ble_eq_true rfl)⟩ ⟨(Nat.le_of_ble_eq_true rfl), (Nat.le_of_ble_eq_true rfl)⟩ xS_b (xS_at hX.1 hw34.2.2.1 (va_free hw34.2.1 hw34.2.2.1 hw34.2.2.2 _ hC_)) hX.1.1 (by decide) rfl rfl _ hC_ (nd_T _ 0) rfl hl9.1 rfl (Nat.le_of_ble_eq_true rfl) dX8_step_202)) rfl (fun _ => rfl) (fun _ => rfl) (fun r_41 u_40 H1 locs hp hw42 => ?_)
                  generalize H1 = H at hw42 ⊢
                  have hw43 : WD D A s.heap (WZ_Tape cI cJ ad mr (upd (upd mi 4 x_6) 7 x_6) mf mg) H locs := hw42
                  refine lv_if_lt (pc := 205) (tgt := 220) E.1 E.2.1 dX8_step_205 (by decide) (fun c_44 => ?_) (fun c_44 => ?_)
                  · skip
                    have hc_44 := ltE (a := r_41.toInt) (b := 0) rfl (by decide +kernel) c_44
                    refine lv_iconst (pc := 220) (v := 2) E.1 E.2.1 dX8_step_220 (by decide +kernel) ?_
                    refine x_put (pc := 221) (T := TX8) (N := 9) (ci := 8) (ws' := (WZ_Tape cI cJ ad mr (upd (upd (upd mi 4 x_6) 5 2) 7 x_6) mf mg)) E hw43 inX8 tyX8_ok nmX8 0 4 q_546 rfl rfl (by decide) rfl rfl rfl rfl (Nat.le_of_ble_eq_true rfl) rfl dX8_step_221 (fun H locs hw45 => ?_)
                    refine lv_aload_n (pc := 224) E.1 E.2.1 dX8_step_224 rfl (lv_at hl9 0 rfl) ?_
                    refine lv_dup (pc := 225) E.1 E.2.1 dX8_step_225 rfl ?_
                    refine x_get (pc := 226) (T := TX8) (N := 9) (ci := 8) (v := .int x_6) E hw45 inX8 0 3 q_541 rfl rfl (by decide) rfl rfl dX8_step_226 ?_
                    refine lv_iconst (pc := 229) (v := 1) E.1 E.2.1 dX8_step_229 (by decide +kernel) ?_
                    refine lv_iadd (pc := 230) E.1 E.2.1 dX8_step_230 ?_
                    refine lv_topi (fun v_46 ev_46 => ?_)
                    have hv_46 : v_46.toInt = x_6.toInt + 1 := by rw [ev_46]; exact addE rfl (by decide +kernel) (by omega)
                    refine x_put (pc := 231) (T := TX8) (N := 9) (ci := 8) (ws' := (WZ_Tape cI cJ ad mr (upd (upd (upd mi 4 v_46) 5 2) 7 x_6) mf mg)) E hw45 inX8 tyX8_ok nmX8 0 3 q_541 rfl rfl (by decide) rfl rfl rfl rfl (Nat.le_of_ble_eq_true rfl) rfl dX8_step_231 (fun H locs hw47 => ?_)
                    exact em_v (w1 := (fun (u : Int32 × Int32 × Int32 × Int32) => (WZ_Tape cI cJ ad mr (upd (upd (upd (upd mi 4 u.1) 7 u.2.1) 5 u.2.2.1) 6 u.2.2.2) mf mg))) E hr hlk (v_46, x_6, 2, (mi 6)) hw47 ⟨(by show 0 ≤ v_46.toInt; have k_0 : (2 : Int32).toInt = 2 := (by decide +kernel); omega), (by show v_46.toInt ≤ (mi 2).toInt; have k_0 : (2 : Int32).toInt = 2 := (by decide +kernel); omega)⟩ (Nat.le_of_ble_eq_true rfl) (Nat.le_of_ble_eq_true rfl) dX8_step_234
                  · skip
                    have hc_44 := nltE (a := r_41.toInt) (b := 0) rfl (by decide +kernel) c_44
                    refine lv_aload_n (pc := 208) E.1 E.2.1 dX8_step_208 rfl (lv_at hl9 0 rfl) ?_
                    refine x_get (pc := 209) (T := TX8) (N := 9) (ci := 8) (v := .ref (mr 1)) E hw43 inX8 0 0 q_537 rfl rfl (by decide) rfl rfl dX8_step_209 ?_
                    refine lv_aload_n (pc := 212) E.1 E.2.1 dX8_step_212 rfl (lv_at hl9 0 rfl) ?_
                    refine x_get (pc := 213) (T := TX8) (N := 9) (ci := 8) (v := .int x_6) E hw43 inX8 0 3 q_541 rfl rfl (by decide) rfl rfl dX8_step_213 ?_
                    refine x_iald (pc := 216) (f := (mf 1)) E hw43 1 rfl (inbE (a := x_6.toInt) rfl (by omega)) dX8_step_216 ?_
                    refine lv_topi (fun v_48 ev_48 => ?_)
                    have hsv_48 : v_48.toInt = v_38.toInt := by rw [ev_48, ev_38]
                    refine lv_goto (pc := 217) (tgt := 221) E.1 E.2.1 dX8_step_217 (by decide) ?_
                    refine x_put (pc := 221) (T := TX8) (N := 9) (ci := 8) (ws' := (WZ_Tape cI cJ ad mr (upd (upd (upd mi 4 x_6) 5 v_48) 7 x_6) mf mg)) E hw43 inX8 tyX8_ok nmX8 0 4 q_546 rfl rfl (by decide) rfl rfl rfl rfl (Nat.le_of_ble_eq_true rfl) rfl dX8_step_221 (fun H locs hw49 => ?_)
                    refine lv_aload_n (pc := 224) E.1 E.2.1 dX8_step_224 rfl (lv_at hl9 0 rfl) ?_
                    refine lv_dup (pc := 225) E.1 E.2.1 dX8_step_225 rfl ?_
                    refine x_get (pc := 226) (T := TX8) (N := 9) (ci := 8) (v := .int x_6) E hw49 inX8 0 3 q_541 rfl rfl (by decide) rfl rfl dX8_step_226 ?_
                    refine lv_iconst (pc := 229) (v := 1) E.1 E.2.1 dX8_step_229 (by decide +kernel) ?_
                    refine lv_iadd (pc := 230) E.1 E.2.1 dX8_step_230 ?_
                    refine lv_topi (fun v_50 ev_50 => ?_)
                    have hv_50 : v_50.toInt = x_6.toInt + 1 := by rw [ev_50]; exact addE rfl (by decide +kernel) (by omega)
                    refine x_put (pc := 231) (T := TX8) (N := 9) (ci := 8) (ws' := (WZ_Tape cI cJ ad mr (upd (upd (upd mi 4 v_50) 5 v_48) 7 x_6) mf mg)) E hw49 inX8 tyX8_ok nmX8 0 3 q_541 rfl rfl (by decide) rfl rfl rfl rfl (Nat.le_of_ble_eq_true rfl) rfl dX8_step_231 (fun H locs hw51 => ?_)
                    exact em_v (w1 := (fun (u : Int32 × Int32 × Int32 × Int32) => (WZ_Tape cI cJ ad mr (upd (upd (upd (upd mi 4 u.1) 7 u.2.1) 5 u.2.2.1) 6 u.2.2.2) mf mg))) E hr hlk (v_50, x_6, v_48, (mi 6)) hw51 ⟨(by show 0 ≤ v_50.toInt; omega), (by show v_50.toInt ≤ (mi 2).toInt; omega)⟩ (Nat.le_of_ble_eq_true rfl) (Nat.le_of_ble_eq_true rfl) dX8_step_234
                · skip
                  have hc_37 := neE (a := r_32.toInt) (b := 0) rfl (by decide +kernel) c_37
                  refine lv_aload_n (pc := 182) E.1 E.2.1 dX8_step_182 rfl (lv_at hl9 0 rfl) ?_
                  refine ck_v (pc := 183) (ws' := (fun (u : Int32 × Int32 × Int32) => (WZ_Tape cI cJ ad mr (upd (upd (upd (upd mi 4 u.2.1) 5 u.2.2) 6 u.1) 7 x_6) mf mg))) [true, true] hw34 rfl (fun hC_ => (rn_V (As := []) (rest := []) E hw34 (t_readNumberT l D cI cJ _ mr (upd (upd mi 4 x_6) 7 x_6) mf mg ad h0 hi_6_0 hi_6_1 hi_6_0 (by show x_6.toInt ≤ x_6.toInt; omega)) (gdV q_784 q_786 q_3 q_160 q_787) hdV_X8_readNumber ⟨rfl, rfl⟩ ⟨(Nat.le_of_ble_eq_true rfl), (Nat.le_of_ble_eq_true rfl)⟩ ⟨(Nat.le_of_ble_eq_true rfl), (Nat.le_of_ble_eq_true rfl)⟩ xT_b xT_at 0 8 rfl rfl rfl _ hC_ (nd_T _ 0) rfl hl9.1 rfl (Nat.le_of_ble_eq_true rfl) dX8_step_183)) rfl (fun _ => rfl) (fun _ => rfl) (fun u_52 H1 locs hp hw54 => ?_)
                  obtain ⟨nvalue_55, nat_56, nkind_57⟩ := u_52
                  generalize H1 = H at hw54 ⊢
                  have hw58 : WD D A s.heap (WZ_Tape cI cJ ad mr (upd (upd (upd (upd mi 4 nat_56) 5 nkind_57) 6 nvalue_55) 7 x_6) mf mg) H locs := hw54
                  obtain ⟨hp_59, hp_60, hp_61⟩ := hp
                  have hp_59 : 0 ≤ nat_56.toInt := hp_59
                  have hp_60 : nat_56.toInt ≤ (mi 2).toInt := hp_60
                  have hp_61 : x_6.toInt ≤ nat_56.toInt := hp_61
                  refine lv_goto (pc := 186) (tgt := 234) E.1 E.2.1 dX8_step_186 (by decide) ?_
                  exact em_v (w1 := (fun (u : Int32 × Int32 × Int32 × Int32) => (WZ_Tape cI cJ ad mr (upd (upd (upd (upd mi 4 u.1) 7 u.2.1) 5 u.2.2.1) 6 u.2.2.2) mf mg))) E hr hlk (nat_56, x_6, nkind_57, nvalue_55) hw58 ⟨hp_59, hp_60⟩ (Nat.le_of_ble_eq_true rfl) (Nat.le_of_ble_eq_true rfl) dX8_step_234
              · skip
                have hc_29 := neE (a := r_24.toInt) (b := 0) rfl (by decide +kernel) c_29
                have loop_62 : ∀ (k : Nat) (x_63 : Int32) (H : Heap) (locs : List Loc) (ls : Array Slot), (0 ≤ x_63.toInt) ∧ (x_63.toInt ≤ (mi 2).toInt) ∧ (x_6.toInt ≤ x_63.toInt) → (mi 2).toInt - x_63.toInt < (k : Int) → WD D A s.heap (WZ_Tape cI cJ ad mr (upd (upd mi 4 x_63) 7 x_6) mf mg) H locs → lv_has ls 2 [(0, .ref (mr 0))] → W p l e ({ frames := 6, cells := 0, slots := 0, locals := 150 } : Room) s m ([.ref (mr 0)] : List Value).toArray below meth c H locs 0 0 (MQ below (va_Qv (fun (u : Int32 × Int32 × Int32 × Int32) => (0 ≤ u.1.toInt) ∧ (u.1.toInt ≤ (mi 2).toInt)) (fun u => QW D cI cJ A ((fun (u : Int32 × Int32 × Int32 × Int32) => (WZ_Tape cI cJ ad mr (upd (upd (upd (upd mi 4 u.1) 7 u.2.1) 5 u.2.2.1) 6 u.2.2.2) mf mg)) u)) A) ([.ref (mr 0)] : List Value).toArray s 0 0 A) (F0 m 102 ls []) := by
                  intro k
                  induction k with
                  | zero =>
                    intro x_63 _ _ _ hinv hm
                    obtain ⟨hi_63_0, hi_63_1, hi_63_2⟩ := hinv
                    exact absurd hm (by omega)
                  | succ k ih_64 =>
                    intro x_63 H locs ls hinv hm hw65 hl66
                    obtain ⟨hi_63_0, hi_63_1, hi_63_2⟩ := hinv
                    refine lv_aload_n (pc := 102) E.1 E.2.1 dX8_step_102 rfl (lv_at hl66 0 rfl) ?_
                    refine x_get (pc := 103) (T := TX8) (N := 9) (ci := 8) (v := .int x_63) E hw65 inX8 0 3 q_541 rfl rfl (by decide) rfl rfl dX8_step_103 ?_
                    refine lv_aload_n (pc := 106) E.1 E.2.1 dX8_step_106 rfl (lv_at hl66 0 rfl) ?_
                    refine x_get (pc := 107) (T := TX8) (N := 9) (ci := 8) (v := .int (mi 2)) E hw65 inX8 0 1 q_538 rfl rfl (by decide) rfl rfl dX8_step_107 ?_
                    refine lv_icmp_ge (pc := 110) (tgt := 141) E.1 E.2.1 dX8_step_110 (by decide) (fun c_67 => ?_) (fun c_67 => ?_)
                    · skip
                      have hc_67 := leE (a := (mi 2).toInt) (b := x_63.toInt) rfl rfl c_67
                      refine lv_aload_n (pc := 141) E.1 E.2.1 dX8_step_141 rfl (lv_at hl66 0 rfl) ?_
                      refine ck_i (pc := 142) (ws' := (fun (u : Unit) => (WZ_Tape cI cJ ad mr (upd (upd mi 4 x_63) 7 x_6) mf mg))) [true, true] hw65 rfl (fun hC_ => (rn_V (As := []) (rest := []) E hw65 (t_wordNumber l D cI cJ _ mr (upd (upd mi 4 x_63) 7 x_6) mf mg ad av tf h0 hi_63_0 hi_63_1 h3 hi_6_0 hi_63_2) (gdV q_729 q_731 q_2 q_160 q_732) hdV_X8_wordNumber ⟨rfl, rfl⟩ ⟨(Nat.le_of_ble_eq_true rfl), (Nat.le_of_ble_eq_true rfl)⟩ ⟨(Nat.le_of_ble_eq_true rfl), (Nat.le_of_ble_eq_true rfl)⟩ xT8_b (xT8_at hX hw65.2.2.1 (va_free hw65.2.1 hw65.2.2.1 hw65.2.2.2 _ hC_)) 0 8 rfl rfl rfl _ hC_ (nd_T _ 0) rfl hl66.1 rfl (Nat.le_of_ble_eq_true rfl) dX8_step_142)) rfl (fun _ => rfl) (fun _ => rfl) (fun r_69 u_68 H1 locs hp hw70 => ?_)
                      generalize H1 = H at hw70 ⊢
                      have hw71 : WD D A s.heap (WZ_Tape cI cJ ad mr (upd (upd mi 4 x_63) 7 x_6) mf mg) H locs := hw70
                      obtain ⟨hp_72, hp_73⟩ := hp
                      have hp_72 : (-1) ≤ r_69.toInt := hp_72
                      have hp_73 : r_69.toInt ≤ 75 := hp_73
                      refine lv_istore_n (pc := 145) (lv' := [(1, .int r_69), (0, .ref (mr 0))]) E.1 E.2.1 dX8_step_145 rfl hl66 (by decide) rfl (fun ls hl74 => ?_)
                      refine lv_aload_n (pc := 146) E.1 E.2.1 dX8_step_146 rfl (lv_at hl74 1 rfl) ?_
                      refine lv_iload_n (pc := 147) E.1 E.2.1 dX8_step_147 rfl (lv_at hl74 0 rfl) ?_
                      refine lv_iconst (pc := 148) (v := (-1)) E.1 E.2.1 dX8_step_148 (by decide +kernel) ?_
                      refine lv_icmp_ne (pc := 149) (tgt := 156) E.1 E.2.1 dX8_step_149 (by decide) (fun c_75 => ?_) (fun c_75 => ?_)
                      · skip
                        have hc_75 := neE (a := r_69.toInt) (b := (-1)) rfl (by decide +kernel) c_75
                        refine lv_sipush (pc := 156) (v := 256) E.1 E.2.1 dX8_step_156 (by decide +kernel) ?_
                        refine lv_iload_n (pc := 159) E.1 E.2.1 dX8_step_159 rfl (lv_at hl74 0 rfl) ?_
                        refine lv_iadd (pc := 160) E.1 E.2.1 dX8_step_160 ?_
                        refine lv_topi (fun v_76 ev_76 => ?_)
                        have hv_76 : v_76.toInt = 256 + r_69.toInt := by rw [ev_76]; exact addE (by decide +kernel) rfl (by omega)
                        refine x_put (pc := 161) (T := TX8) (N := 9) (ci := 8) (ws' := (WZ_Tape cI cJ ad mr (upd (upd (upd mi 4 x_63) 5 v_76) 7 x_6) mf mg)) E hw71 inX8 tyX8_ok nmX8 0 4 q_546 rfl rfl (by decide) rfl rfl rfl rfl (Nat.le_of_ble_eq_true rfl) rfl dX8_step_161 (fun H locs hw77 => ?_)
                        refine lv_goto (pc := 164) (tgt := 234) E.1 E.2.1 dX8_step_164 (by decide) ?_
                        exact em_v (w1 := (fun (u : Int32 × Int32 × Int32 × Int32) => (WZ_Tape cI cJ ad mr (upd (upd (upd (upd mi 4 u.1) 7 u.2.1) 5 u.2.2.1) 6 u.2.2.2) mf mg))) E hr hlk (x_63, x_6, v_76, (mi 6)) hw77 ⟨hi_63_0, hi_63_1⟩ (Nat.le_of_ble_eq_true rfl) (Nat.le_of_ble_eq_true rfl) dX8_step_234
                      · skip
                        have hc_75 := eqE (a := r_69.toInt) (b := (-1)) rfl (by decide +kernel) c_75
                        refine lv_iconst (pc := 152) (v := 2) E.1 E.2.1 dX8_step_152 (by decide +kernel) ?_
                        refine lv_goto (pc := 153) (tgt := 161) E.1 E.2.1 dX8_step_153 (by decide) ?_
                        refine x_put (pc := 161) (T := TX8) (N := 9) (ci := 8) (ws' := (WZ_Tape cI cJ ad mr (upd (upd (upd mi 4 x_63) 5 2) 7 x_6) mf mg)) E hw71 inX8 tyX8_ok nmX8 0 4 q_546 rfl rfl (by decide) rfl rfl rfl rfl (Nat.le_of_ble_eq_true rfl) rfl dX8_step_161 (fun H locs hw78 => ?_)
                        refine lv_goto (pc := 164) (tgt := 234) E.1 E.2.1 dX8_step_164 (by decide) ?_
                        exact em_v (w1 := (fun (u : Int32 × Int32 × Int32 × Int32) => (WZ_Tape cI cJ ad mr (upd (upd (upd (upd mi 4 u.1) 7 u.2.1) 5 u.2.2.1) 6 u.2.2.2) mf mg))) E hr hlk (x_63, x_6, 2, (mi 6)) hw78 ⟨hi_63_0, hi_63_1⟩ (Nat.le_of_ble_eq_true rfl) (Nat.le_of_ble_eq_true rfl) dX8_step_234
                    · skip
                      have hc_67 := nleE (a := (mi 2).toInt) (b := x_63.toInt) rfl rfl c_67
                      refine lv_aload_n (pc := 113) E.1 E.2.1 dX8_step_113 rfl (lv_at hl66 0 rfl) ?_
                      refine x_get (pc := 114) (T := TX8) (N := 9) (ci := 8) (v := .ref (mr 1)) E hw65 inX8 0 0 q_537 rfl rfl (by decide) rfl rfl dX8_step_114 ?_
                      refine lv_aload_n (pc := 117) E.1 E.2.1 dX8_step_117 rfl (lv_at hl66 0 rfl) ?_
                      refine x_get (pc := 118) (T := TX8) (N := 9) (ci := 8) (v := .int x_63) E hw65 inX8 0 3 q_541 rfl rfl (by decide) rfl rfl dX8_step_118 ?_
                      refine x_iald (pc := 121) (f := (mf 1)) E hw65 1 rfl (inbE (a := x_63.toInt) rfl (by omega)) dX8_step_121 ?_
                      refine lv_topi (fun v_79 ev_79 => ?_)
                      refine ck_i (pc := 122) (ws' := (fun (u : Unit) => (WZ_Tape cI cJ ad mr (upd (upd mi 4 x_63) 7 x_6) mf mg))) [false, false] hw65 rfl (fun hC_ => (rn_S (As := [.int v_79]) (rest := []) E hw65 (t_isLetter l D cI cJ _ mr (upd (upd mi 4 x_63) 7 x_6) mf mg v_79) (gdS q_726 q_727 q_160 q_728) hdV_X8_isLetter ⟨rfl, rfl⟩ ⟨(Nat.le_of_ble_eq_true rfl), (Nat.le_of_ble_eq_true rfl)⟩ ⟨(Nat.le_of_ble_eq_true rfl), (Nat.le_of_ble_eq_true rfl)⟩ xT_b xT_at _ hC_ (nd_T _ 0) rfl hl66.1 rfl (Nat.le_of_ble_eq_true rfl) dX8_step_122)) rfl (fun _ => rfl) (fun _ => rfl) (fun r_81 u_80 H1 locs hp hw82 => ?_)
                      generalize H1 = H at hw82 ⊢
                      have hw83 : WD D A s.heap (WZ_Tape cI cJ ad mr (upd (upd mi 4 x_63) 7 x_6) mf mg) H locs := hw82
                      obtain ⟨hp_84, hp_85⟩ := hp
                      have hp_84 : 0 ≤ r_81.toInt := hp_84
                      have hp_85 : r_81.toInt ≤ 1 := hp_85
                      refine lv_if_eq (pc := 125) (tgt := 141) E.1 E.2.1 dX8_step_125 (by decide) (fun c_86 => ?_) (fun c_86 => ?_)
                      · skip
                        have hc_86 := eqE (a := r_81.toInt) (b := 0) rfl (by decide +kernel) c_86
                        refine lv_aload_n (pc := 141) E.1 E.2.1 dX8_step_141 rfl (lv_at hl66 0 rfl) ?_
                        refine ck_i (pc := 142) (ws' := (fun (u : Unit) => (WZ_Tape cI cJ ad mr (upd (upd mi 4 x_63) 7 x_6) mf mg))) [true, true] hw83 rfl (fun hC_ => (rn_V (As := []) (rest := []) E hw83 (t_wordNumber l D cI cJ _ mr (upd (upd mi 4 x_63) 7 x_6) mf mg ad av tf h0 hi_63_0 hi_63_1 h3 hi_6_0 hi_63_2) (gdV q_729 q_731 q_2 q_160 q_732) hdV_X8_wordNumber ⟨rfl, rfl⟩ ⟨(Nat.le_of_ble_eq_true rfl), (Nat.le_of_ble_eq_true rfl)⟩ ⟨(Nat.le_of_ble_eq_true rfl), (Nat.le_of_ble_eq_true rfl)⟩ xT8_b (xT8_at hX hw83.2.2.1 (va_free hw83.2.1 hw83.2.2.1 hw83.2.2.2 _ hC_)) 0 8 rfl rfl rfl _ hC_ (nd_T _ 0) rfl hl66.1 rfl (Nat.le_of_ble_eq_true rfl) dX8_step_142)) rfl (fun _ => rfl) (fun _ => rfl) (fun r_88 u_87 H1 locs hp hw89 => ?_)
                        generalize H1 = H at hw89 ⊢
                        have hw90 : WD D A s.heap (WZ_Tape cI cJ ad mr (upd (upd mi 4 x_63) 7 x_6) mf mg) H locs := hw89
                        obtain ⟨hp_91, hp_92⟩ := hp
                        have hp_91 : (-1) ≤ r_88.toInt := hp_91
                        have hp_92 : r_88.toInt ≤ 75 := hp_92
                        refine lv_istore_n (pc := 145) (lv' := [(1, .int r_88), (0, .ref (mr 0))]) E.1 E.2.1 dX8_step_145 rfl hl66 (by decide) rfl (fun ls hl93 => ?_)
                        refine lv_aload_n (pc := 146) E.1 E.2.1 dX8_step_146 rfl (lv_at hl93 1 rfl) ?_
                        refine lv_iload_n (pc := 147) E.1 E.2.1 dX8_step_147 rfl (lv_at hl93 0 rfl) ?_
                        refine lv_iconst (pc := 148) (v := (-1)) E.1 E.2.1 dX8_step_148 (by decide +kernel) ?_
                        refine lv_icmp_ne (pc := 149) (tgt := 156) E.1 E.2.1 dX8_step_149 (by decide) (fun c_94 => ?_) (fun c_94 => ?_)
                        · skip
                          have hc_94 := neE (a := r_88.toInt) (b := (-1)) rfl (by decide +kernel) c_94
                          refine lv_sipush (pc := 156) (v := 256) E.1 E.2.1 dX8_step_156 (by decide +kernel) ?_
                          refine lv_iload_n (pc := 159) E.1 E.2.1 dX8_step_159 rfl (lv_at hl93 0 rfl) ?_
                          refine lv_iadd (pc := 160) E.1 E.2.1 dX8_step_160 ?_
                          refine lv_topi (fun v_95 ev_95 => ?_)
                          have hv_95 : v_95.toInt = 256 + r_88.toInt := by rw [ev_95]; exact addE (by decide +kernel) rfl (by omega)
                          refine x_put (pc := 161) (T := TX8) (N := 9) (ci := 8) (ws' := (WZ_Tape cI cJ ad mr (upd (upd (upd mi 4 x_63) 5 v_95) 7 x_6) mf mg)) E hw90 inX8 tyX8_ok nmX8 0 4 q_546 rfl rfl (by decide) rfl rfl rfl rfl (Nat.le_of_ble_eq_true rfl) rfl dX8_step_161 (fun H locs hw96 => ?_)
                          refine lv_goto (pc := 164) (tgt := 234) E.1 E.2.1 dX8_step_164 (by decide) ?_
                          exact em_v (w1 := (fun (u : Int32 × Int32 × Int32 × Int32) => (WZ_Tape cI cJ ad mr (upd (upd (upd (upd mi 4 u.1) 7 u.2.1) 5 u.2.2.1) 6 u.2.2.2) mf mg))) E hr hlk (x_63, x_6, v_95, (mi 6)) hw96 ⟨hi_63_0, hi_63_1⟩ (Nat.le_of_ble_eq_true rfl) (Nat.le_of_ble_eq_true rfl) dX8_step_234
                        · skip
                          have hc_94 := eqE (a := r_88.toInt) (b := (-1)) rfl (by decide +kernel) c_94
                          refine lv_iconst (pc := 152) (v := 2) E.1 E.2.1 dX8_step_152 (by decide +kernel) ?_
                          refine lv_goto (pc := 153) (tgt := 161) E.1 E.2.1 dX8_step_153 (by decide) ?_
                          refine x_put (pc := 161) (T := TX8) (N := 9) (ci := 8) (ws' := (WZ_Tape cI cJ ad mr (upd (upd (upd mi 4 x_63) 5 2) 7 x_6) mf mg)) E hw90 inX8 tyX8_ok nmX8 0 4 q_546 rfl rfl (by decide) rfl rfl rfl rfl (Nat.le_of_ble_eq_true rfl) rfl dX8_step_161 (fun H locs hw97 => ?_)
                          refine lv_goto (pc := 164) (tgt := 234) E.1 E.2.1 dX8_step_164 (by decide) ?_
                          exact em_v (w1 := (fun (u : Int32 × Int32 × Int32 × Int32) => (WZ_Tape cI cJ ad mr (upd (upd (upd (upd mi 4 u.1) 7 u.2.1) 5 u.2.2.1) 6 u.2.2.2) mf mg))) E hr hlk (x_63, x_6, 2, (mi 6)) hw97 ⟨hi_63_0, hi_63_1⟩ (Nat.le_of_ble_eq_true rfl) (Nat.le_of_ble_eq_true rfl) dX8_step_234
                      · skip
                        have hc_86 := neE (a := r_81.toInt) (b := 0) rfl (by decide +kernel) c_86
                        refine lv_aload_n (pc := 128) E.1 E.2.1 dX8_step_128 rfl (lv_at hl66 0 rfl) ?_
                        refine lv_dup (pc := 129) E.1 E.2.1 dX8_step_129 rfl ?_
                        refine x_get (pc := 130) (T := TX8) (N := 9) (ci := 8) (v := .int x_63) E hw83 inX8 0 3 q_541 rfl rfl (by decide) rfl rfl dX8_step_130 ?_
                        refine lv_iconst (pc := 133) (v := 1) E.1 E.2.1 dX8_step_133 (by decide +kernel) ?_
                        refine lv_iadd (pc := 134) E.1 E.2.1 dX8_step_134 ?_
                        refine lv_topi (fun v_98 ev_98 => ?_)
                        have hv_98 : v_98.toInt = x_63.toInt + 1 := by rw [ev_98]; exact addE rfl (by decide +kernel) (by omega)
                        refine x_put (pc := 135) (T := TX8) (N := 9) (ci := 8) (ws' := (WZ_Tape cI cJ ad mr (upd (upd mi 4 v_98) 7 x_6) mf mg)) E hw83 inX8 tyX8_ok nmX8 0 3 q_541 rfl rfl (by decide) rfl rfl rfl rfl (Nat.le_of_ble_eq_true rfl) rfl dX8_step_135 (fun H locs hw99 => ?_)
                        refine lv_goto (pc := 138) (tgt := 102) E.1 E.2.1 dX8_step_138 (by decide) ?_
                        exact ih_64 v_98 _ _ _ ⟨(by show 0 ≤ v_98.toInt; omega), (by show v_98.toInt ≤ (mi 2).toInt; omega), (by show x_6.toInt ≤ v_98.toInt; omega)⟩ (by omega) hw99 (lv_sub hl66 [0] rfl)
                exact loop_62 (Int.toNat ((mi 2).toInt - x_6.toInt) + 1) x_6 _ _ _ ⟨hi_6_0, hi_6_1, (by show x_6.toInt ≤ x_6.toInt; omega)⟩ (by omega) hw26 (lv_sub hl9 [0] rfl)
            · skip
              have hc_19 := eqE (a := v_18.toInt) (b := 10) rfl (by decide +kernel) c_19
              refine lv_aload_n (pc := 47) E.1 E.2.1 dX8_step_47 rfl (lv_at hl9 0 rfl) ?_
              refine lv_dup (pc := 48) E.1 E.2.1 dX8_step_48 rfl ?_
              refine x_get (pc := 49) (T := TX8) (N := 9) (ci := 8) (v := .int x_6) E hw8 inX8 0 3 q_541 rfl rfl (by decide) rfl rfl dX8_step_49 ?_
              refine lv_iconst (pc := 52) (v := 1) E.1 E.2.1 dX8_step_52 (by decide +kernel) ?_
              refine lv_iadd (pc := 53) E.1 E.2.1 dX8_step_53 ?_
              refine lv_topi (fun v_100 ev_100 => ?_)
              have hv_100 : v_100.toInt = x_6.toInt + 1 := by rw [ev_100]; exact addE rfl (by decide +kernel) (by omega)
              refine x_put (pc := 54) (T := TX8) (N := 9) (ci := 8) (ws' := (WZ_Tape cI cJ ad mr (upd mi 4 v_100) mf mg)) E hw8 inX8 tyX8_ok nmX8 0 3 q_541 rfl rfl (by decide) rfl rfl rfl rfl (Nat.le_of_ble_eq_true rfl) rfl dX8_step_54 (fun H locs hw101 => ?_)
              refine lv_goto (pc := 57) (tgt := 8) E.1 E.2.1 dX8_step_57 (by decide) ?_
              exact ih_7 v_100 _ _ _ ⟨(by show 0 ≤ v_100.toInt; omega), (by show v_100.toInt ≤ (mi 2).toInt; omega)⟩ (by omega) hw101 (lv_sub hl9 [0] rfl)
    exact loop_5 (Int.toNat ((mi 2).toInt - (mi 4).toInt) + 1) (mi 4) _ _ _ ⟨h1, h2⟩ (by omega) hw1 (lv_sub hl3 [0] rfl)
  · skip
    have hc_4 := neE (a := (mi 8).toInt) (b := 0) rfl (by decide +kernel) c_4
    exact em_v (w1 := (fun (u : Int32 × Int32 × Int32 × Int32) => (WZ_Tape cI cJ ad mr (upd (upd (upd (upd mi 4 u.1) 7 u.2.1) 5 u.2.2.1) 6 u.2.2.2) mf mg))) E hr hlk ((mi 4), (mi 7), (mi 5), (mi 6)) hw1 ⟨h1, h2⟩ (Nat.le_of_ble_eq_true rfl) (Nat.le_of_ble_eq_true rfl) dX8_step_7
set_option maxHeartbeats 4000000 in
set_option maxRecDepth 100000 in
theorem t_open (l : Launch) (D : va_G) (cI cJ : ClassId) (sz : Nat) (mr : Nat → Nat) (mi : Nat → Int32) (mf : Nat → Nat → Int32) (mg : Nat → Nat → Int64) (z_text : Int32) (ad av : Nat → Nat) (tf : Value) (h0 : 0 ≤ (mi 2).toInt ∧ (mi 2).toInt ≤ 400) : Met l yX8_open (Cond.code yX8_open cX8_open 2 none :: GW) ({ frames := 7, cells := 0, slots := 0, locals := 171 } : Room) (va_Pc [.ref (mr 0), .int z_text] (PW D cI cJ sz (WZ_Tape cI cJ ad mr mi mf mg) (xT8 ad av tf (va_A (WZ_Tape cI cJ ad mr mi mf mg) sz)))) (va_Qv (fun (u : Int32 × Int32 × Int32 × Int32 × Int32 × Int32 × Int32) => (0 ≤ u.1.toInt) ∧ (u.1.toInt ≤ (mi 2).toInt) ∧ (0 ≤ u.2.2.2.2.1.toInt) ∧ (u.2.2.2.2.1.toInt ≤ 6) ∧ (u.2.2.2.2.2.1.toInt = 0)) (fun u => QW D cI cJ (va_A (WZ_Tape cI cJ ad mr mi mf mg) sz) ((fun (u : Int32 × Int32 × Int32 × Int32 × Int32 × Int32 × Int32) => (WZ_Tape cI cJ ad mr (upd (upd (upd (upd (upd (upd (upd mi 4 u.1) 7 u.2.1) 5 u.2.2.1) 6 u.2.2.2.1) 3 u.2.2.2.2.1) 8 u.2.2.2.2.2.1) 9 u.2.2.2.2.2.2) mf mg)) u)) (va_A (WZ_Tape cI cJ ad mr mi mf mg) sz)) 0 0 (va_A (WZ_Tape cI cJ ad mr mi mf mg) sz) := by
  refine mk_metA (X := fun A => xT8 ad av tf A) (y := yX8_open) (bytes := cX8_open) (maxL := 2) (avs := [.ref (mr 0), .int z_text]) (WS := (WZ_Tape cI cJ ad mr mi mf mg)) (Qf := fun A => va_Qv (fun (u : Int32 × Int32 × Int32 × Int32 × Int32 × Int32 × Int32) => (0 ≤ u.1.toInt) ∧ (u.1.toInt ≤ (mi 2).toInt) ∧ (0 ≤ u.2.2.2.2.1.toInt) ∧ (u.2.2.2.2.1.toInt ≤ 6) ∧ (u.2.2.2.2.2.1.toInt = 0)) (fun u => QW D cI cJ A ((fun (u : Int32 × Int32 × Int32 × Int32 × Int32 × Int32 × Int32) => (WZ_Tape cI cJ ad mr (upd (upd (upd (upd (upd (upd (upd mi 4 u.1) 7 u.2.1) 5 u.2.2.1) 6 u.2.2.2.1) 3 u.2.2.2.2.1) 8 u.2.2.2.2.2.1) 9 u.2.2.2.2.2.2) mf mg)) u)) A) (by decide) (Nat.le_of_ble_eq_true rfl) ?_
  intro p e s m below meth c A ls E hr hlk hnm hX hw1 hl2
  have hl3 : lv_has ls 2 [(0, .ref (mr 0)), (1, .int z_text)] := hl2
  refine lv_aload_n (pc := 0) E.1 E.2.1 dX8_open_0 rfl (lv_at hl3 0 rfl) ?_
  refine lv_iload_n (pc := 1) E.1 E.2.1 dX8_open_1 rfl (lv_at hl3 1 rfl) ?_
  refine cq_t (pc := 2) (ws' := (WZ_Tape cI cJ ad mr mi mf mg)) hw1 [] [0, 1] [0, 1] rfl rfl (by decide) (by decide) rfl (by decide) (rn_S (As := [.int z_text]) (rest := [.ref (mr 0)]) E hw1 (t_wordsOf l D cI cJ _ mr mi mf mg z_text ad av tf) (gdS q_714 q_715 q_160 q_716) hdV_X8_wordsOf ⟨rfl, rfl⟩ ⟨(Nat.le_of_ble_eq_true rfl), (Nat.le_of_ble_eq_true rfl)⟩ ⟨(Nat.le_of_ble_eq_true rfl), (Nat.le_of_ble_eq_true rfl)⟩ xT8_b (xT8_at hX hw1.2.2.1 (va_free hw1.2.1 hw1.2.2.1 hw1.2.2.2 [] rfl)) [] rfl (by decide) rfl hl3.1 rfl (Nat.le_of_ble_eq_true rfl) dX8_open_2) (fun u_4 H1 locs hp hw5 => ?_)
  generalize H1 = H at hw5 ⊢
  have hw6 : WD D A s.heap (WZ_Tape cI cJ ad mr mi mf mg) H locs := hw5
  have hbu_4 : 0 ≤ u_4.toInt ∧ u_4.toInt ≤ 6 := hp
  refine x_put (pc := 5) (T := TX8) (N := 9) (ci := 8) (ws' := (WZ_Tape cI cJ ad mr (upd mi 3 u_4) mf mg)) E hw6 inX8 tyX8_ok nmX8 0 2 q_540 rfl rfl (by decide) rfl rfl rfl rfl (Nat.le_of_ble_eq_true rfl) rfl dX8_open_5 (fun H locs hw7 => ?_)
  refine lv_aload_n (pc := 8) E.1 E.2.1 dX8_open_8 rfl (lv_at hl3 0 rfl) ?_
  refine lv_iconst (pc := 9) (v := 0) E.1 E.2.1 dX8_open_9 (by decide +kernel) ?_
  refine x_put (pc := 10) (T := TX8) (N := 9) (ci := 8) (ws' := (WZ_Tape cI cJ ad mr (upd (upd mi 3 u_4) 8 0) mf mg)) E hw7 inX8 tyX8_ok nmX8 0 7 q_550 rfl rfl (by decide) rfl rfl rfl rfl (Nat.le_of_ble_eq_true rfl) rfl dX8_open_10 (fun H locs hw8 => ?_)
  refine lv_aload_n (pc := 13) E.1 E.2.1 dX8_open_13 rfl (lv_at hl3 0 rfl) ?_
  refine lv_iconst (pc := 14) (v := (-1)) E.1 E.2.1 dX8_open_14 (by decide +kernel) ?_
  refine x_put (pc := 15) (T := TX8) (N := 9) (ci := 8) (ws' := (WZ_Tape cI cJ ad mr (upd (upd (upd mi 3 u_4) 8 0) 9 (-1)) mf mg)) E hw8 inX8 tyX8_ok nmX8 0 8 q_556 rfl rfl (by decide) rfl rfl rfl rfl (Nat.le_of_ble_eq_true rfl) rfl dX8_open_15 (fun H locs hw9 => ?_)
  refine lv_aload_n (pc := 18) E.1 E.2.1 dX8_open_18 rfl (lv_at hl3 0 rfl) ?_
  refine lv_iconst (pc := 19) (v := 0) E.1 E.2.1 dX8_open_19 (by decide +kernel) ?_
  refine x_put (pc := 20) (T := TX8) (N := 9) (ci := 8) (ws' := (WZ_Tape cI cJ ad mr (upd (upd (upd (upd mi 3 u_4) 4 0) 8 0) 9 (-1)) mf mg)) E hw9 inX8 tyX8_ok nmX8 0 3 q_541 rfl rfl (by decide) rfl rfl rfl rfl (Nat.le_of_ble_eq_true rfl) rfl dX8_open_20 (fun H locs hw10 => ?_)
  refine lv_aload_n (pc := 23) E.1 E.2.1 dX8_open_23 rfl (lv_at hl3 0 rfl) ?_
  refine ck_v (pc := 24) (ws' := (fun (u : Int32 × Int32 × Int32 × Int32) => (WZ_Tape cI cJ ad mr (upd (upd (upd (upd (upd (upd (upd mi 3 u_4) 4 u.1) 5 u.2.2.1) 6 u.2.2.2) 7 u.2.1) 8 0) 9 (-1)) mf mg))) [true, true] hw10 rfl (fun hC_ => (rn_V (As := []) (rest := []) E hw10 (t_step l D cI cJ _ mr (upd (upd (upd (upd mi 3 u_4) 4 0) 8 0) 9 (-1)) mf mg ad av tf h0 (by show 0 ≤ (0 : Int32).toInt; have k_0 : (0 : Int32).toInt = 0 := (by decide +kernel); omega) (by show (0 : Int32).toInt ≤ (mi 2).toInt; have k_0 : (0 : Int32).toInt = 0 := (by decide +kernel); omega) (by show 0 ≤ u_4.toInt ∧ u_4.toInt ≤ 6; omega)) (gdV q_722 q_723 q_724 q_160 q_725) hdV_X8_step ⟨rfl, rfl⟩ ⟨(Nat.le_of_ble_eq_true rfl), (Nat.le_of_ble_eq_true rfl)⟩ ⟨(Nat.le_of_ble_eq_true rfl), (Nat.le_of_ble_eq_true rfl)⟩ xT8_b (xT8_at hX hw10.2.2.1 (va_free hw10.2.1 hw10.2.2.1 hw10.2.2.2 _ hC_)) 0 8 rfl rfl rfl _ hC_ (nd_T _ 0) rfl hl3.1 rfl (Nat.le_of_ble_eq_true rfl) dX8_open_24)) rfl (fun _ => rfl) (fun _ => rfl) (fun u_11 H1 locs hp hw13 => ?_)
  obtain ⟨nat_14, nplace_15, nkind_16, nvalue_17⟩ := u_11
  generalize H1 = H at hw13 ⊢
  have hw18 : WD D A s.heap (WZ_Tape cI cJ ad mr (upd (upd (upd (upd (upd (upd (upd mi 3 u_4) 4 nat_14) 5 nkind_16) 6 nvalue_17) 7 nplace_15) 8 0) 9 (-1)) mf mg) H locs := hw13
  obtain ⟨hp_19, hp_20⟩ := hp
  have hp_19 : 0 ≤ nat_14.toInt := hp_19
  have hp_20 : nat_14.toInt ≤ (mi 2).toInt := hp_20
  exact em_v (w1 := (fun (u : Int32 × Int32 × Int32 × Int32 × Int32 × Int32 × Int32) => (WZ_Tape cI cJ ad mr (upd (upd (upd (upd (upd (upd (upd mi 4 u.1) 7 u.2.1) 5 u.2.2.1) 6 u.2.2.2.1) 3 u.2.2.2.2.1) 8 u.2.2.2.2.2.1) 9 u.2.2.2.2.2.2) mf mg))) E hr hlk (nat_14, nplace_15, nkind_16, nvalue_17, u_4, 0, (-1)) hw18 ⟨hp_19, hp_20, (by show 0 ≤ u_4.toInt; have k_0 : (0 : Int32).toInt = 0 := (by decide +kernel); have k_1 : ((-1) : Int32).toInt = -1 := (by decide +kernel); omega), (by show u_4.toInt ≤ 6; have k_0 : (0 : Int32).toInt = 0 := (by decide +kernel); have k_1 : ((-1) : Int32).toInt = -1 := (by decide +kernel); omega), (by show (0 : Int32).toInt = 0; have k_0 : (0 : Int32).toInt = 0 := (by decide +kernel); have k_1 : ((-1) : Int32).toInt = -1 := (by decide +kernel); omega)⟩ (Nat.le_of_ble_eq_true rfl) (Nat.le_of_ble_eq_true rfl) dX8_open_27
