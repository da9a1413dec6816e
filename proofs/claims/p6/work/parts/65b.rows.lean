set_option maxHeartbeats 4000000 in
set_option maxRecDepth 100000 in
theorem t_canEncode (l : Launch) (D : va_G) (cI cJ : ClassId) (sz : Nat) (mr : Nat → Nat) (mi : Nat → Int32) (mf : Nat → Nat → Int32) (mg : Nat → Nat → Int64) (z_cp : Int32)  : Met l yJ1_canEncode_9a6ad (Cond.code yJ1_canEncode_9a6ad cJ1_canEncode_9a6ad 1 (some .boolean) :: GW) ({ frames := 1, cells := 0, slots := 0, locals := 40 } : Room) (va_Pc [.int z_cp] (PW D cI cJ sz (WZ_Es cI cJ mr mi mf mg) xT)) (va_Qi (fun (r : Int32) (u : Unit) => (0 ≤ r.toInt) ∧ (r.toInt ≤ 1)) (fun u => QW D cI cJ (va_A (WZ_Es cI cJ mr mi mf mg) sz) ((fun (u : Unit) => (WZ_Es cI cJ mr mi mf mg)) u)) (va_A (WZ_Es cI cJ mr mi mf mg) sz)) 0 0 (va_A (WZ_Es cI cJ mr mi mf mg) sz) := by
  refine mk_met (y := yJ1_canEncode_9a6ad) (bytes := cJ1_canEncode_9a6ad) (maxL := 1) (avs := [.int z_cp]) (WS := (WZ_Es cI cJ mr mi mf mg)) (Qf := fun A => va_Qi (fun (r : Int32) (u : Unit) => (0 ≤ r.toInt) ∧ (r.toInt ≤ 1)) (fun u => QW D cI cJ A ((fun (u : Unit) => (WZ_Es cI cJ mr mi mf mg)) u)) A) (by decide) (Nat.le_of_ble_eq_true rfl) ?_
  intro p e s m below meth c A ls E hr hlk hnm hX hw1 hl2
  have hl3 : lv_has ls 1 [(0, .int z_cp)] := hl2
  refine lv_iload_n (pc := 0) E.1 E.2.1 dJ1_canEncode_9a6ad_0 rfl (lv_at hl3 0 rfl) ?_
  refine lv_if_lt (pc := 1) (tgt := 15) E.1 E.2.1 dJ1_canEncode_9a6ad_1 (by decide) (fun c_4 => ?_) (fun c_4 => ?_)
  · skip
    have hc_4 := ltE (a := z_cp.toInt) (b := 0) rfl (by decide +kernel) c_4
    refine lv_iconst (pc := 15) (v := 0) E.1 E.2.1 dJ1_canEncode_9a6ad_15 (by decide +kernel) ?_
    exact em_z (w1 := (fun (u : Unit) => (WZ_Es cI cJ mr mi mf mg))) E hr hlk () hw1 ⟨(by show 0 ≤ (0 : Int32).toInt; have k_0 : (0 : Int32).toInt = 0 := (by decide +kernel); omega), (by show (0 : Int32).toInt ≤ 1; have k_0 : (0 : Int32).toInt = 0 := (by decide +kernel); omega)⟩ (by decide +kernel) (Nat.le_of_ble_eq_true rfl) (Nat.le_of_ble_eq_true rfl) dJ1_canEncode_9a6ad_16
  · skip
    have hc_4 := nltE (a := z_cp.toInt) (b := 0) rfl (by decide +kernel) c_4
    refine lv_iload_n (pc := 4) E.1 E.2.1 dJ1_canEncode_9a6ad_4 rfl (lv_at hl3 0 rfl) ?_
    refine lv_sipush (pc := 5) (v := 255) E.1 E.2.1 dJ1_canEncode_9a6ad_5 (by decide +kernel) ?_
    refine lv_icmp_gt (pc := 8) (tgt := 15) E.1 E.2.1 dJ1_canEncode_9a6ad_8 (by decide) (fun c_5 => ?_) (fun c_5 => ?_)
    · skip
      have hc_5 := ltE (a := 255) (b := z_cp.toInt) (by decide +kernel) rfl c_5
      refine lv_iconst (pc := 15) (v := 0) E.1 E.2.1 dJ1_canEncode_9a6ad_15 (by decide +kernel) ?_
      exact em_z (w1 := (fun (u : Unit) => (WZ_Es cI cJ mr mi mf mg))) E hr hlk () hw1 ⟨(by show 0 ≤ (0 : Int32).toInt; have k_0 : (0 : Int32).toInt = 0 := (by decide +kernel); omega), (by show (0 : Int32).toInt ≤ 1; have k_0 : (0 : Int32).toInt = 0 := (by decide +kernel); omega)⟩ (by decide +kernel) (Nat.le_of_ble_eq_true rfl) (Nat.le_of_ble_eq_true rfl) dJ1_canEncode_9a6ad_16
    · skip
      have hc_5 := nltE (a := 255) (b := z_cp.toInt) (by decide +kernel) rfl c_5
      refine lv_iconst (pc := 11) (v := 1) E.1 E.2.1 dJ1_canEncode_9a6ad_11 (by decide +kernel) ?_
      refine lv_goto (pc := 12) (tgt := 16) E.1 E.2.1 dJ1_canEncode_9a6ad_12 (by decide) ?_
      exact em_z (w1 := (fun (u : Unit) => (WZ_Es cI cJ mr mi mf mg))) E hr hlk () hw1 ⟨(by show 0 ≤ (1 : Int32).toInt; have k_0 : (1 : Int32).toInt = 1 := (by decide +kernel); omega), (by show (1 : Int32).toInt ≤ 1; have k_0 : (1 : Int32).toInt = 1 := (by decide +kernel); omega)⟩ (by decide +kernel) (Nat.le_of_ble_eq_true rfl) (Nat.le_of_ble_eq_true rfl) dJ1_canEncode_9a6ad_16
set_option maxHeartbeats 4000000 in
set_option maxRecDepth 100000 in
theorem t_checkIndexP (l : Launch) (D : va_G) (cI cJ : ClassId) (sz : Nat) (mr : Nat → Nat) (mi : Nat → Int32) (mf : Nat → Nat → Int32) (mg : Nat → Nat → Int64) (z_index : Int32) (z_length : Int32) (z_f : Nat) (h0 : 0 ≤ z_index.toInt) (h1 : z_index.toInt + 1 ≤ z_length.toInt) : Met l yJ3_checkIndex_8e157 (Cond.code yJ3_checkIndex_8e157 cJ3_checkIndex_8e157 3 (some .int) :: GW) ({ frames := 1, cells := 0, slots := 0, locals := 40 } : Room) (va_Pc [.int z_index, .int z_length, .ref z_f] (PW D cI cJ sz (WZ_Es cI cJ mr mi mf mg) xT)) (va_Qi (fun (r : Int32) (u : Unit) => True) (fun u => QW D cI cJ (va_A (WZ_Es cI cJ mr mi mf mg) sz) ((fun (u : Unit) => (WZ_Es cI cJ mr mi mf mg)) u)) (va_A (WZ_Es cI cJ mr mi mf mg) sz)) 0 0 (va_A (WZ_Es cI cJ mr mi mf mg) sz) := by
  refine mk_met (y := yJ3_checkIndex_8e157) (bytes := cJ3_checkIndex_8e157) (maxL := 3) (avs := [.int z_index, .int z_length, .ref z_f]) (WS := (WZ_Es cI cJ mr mi mf mg)) (Qf := fun A => va_Qi (fun (r : Int32) (u : Unit) => True) (fun u => QW D cI cJ A ((fun (u : Unit) => (WZ_Es cI cJ mr mi mf mg)) u)) A) (by decide) (Nat.le_of_ble_eq_true rfl) ?_
  intro p e s m below meth c A ls E hr hlk hnm hX hw1 hl2
  have hl3 : lv_has ls 3 [(0, .int z_index), (1, .int z_length), (2, .ref z_f)] := hl2
  refine lv_iload_n (pc := 0) E.1 E.2.1 dJ3_checkIndex_8e157_0 rfl (lv_at hl3 0 rfl) ?_
  refine lv_if_lt (pc := 1) (tgt := 9) E.1 E.2.1 dJ3_checkIndex_8e157_1 (by decide) (fun c_4 => absurd c_4 (mnltE (a := z_index.toInt) (b := 0) rfl (by decide +kernel) (by omega))) (fun _ => ?_)
  refine lv_iload_n (pc := 4) E.1 E.2.1 dJ3_checkIndex_8e157_4 rfl (lv_at hl3 0 rfl) ?_
  refine lv_iload_n (pc := 5) E.1 E.2.1 dJ3_checkIndex_8e157_5 rfl (lv_at hl3 1 rfl) ?_
  refine lv_icmp_lt (pc := 6) (tgt := 16) E.1 E.2.1 dJ3_checkIndex_8e157_6 (by decide) (fun _ => ?_) (fun c_5 => absurd (mltE (a := z_index.toInt) (b := z_length.toInt) rfl rfl (by omega)) c_5)
  refine lv_iload_n (pc := 16) E.1 E.2.1 dJ3_checkIndex_8e157_16 rfl (lv_at hl3 0 rfl) ?_
  exact em_i (w1 := (fun (u : Unit) => (WZ_Es cI cJ mr mi mf mg))) E hr hlk () hw1 trivial (Nat.le_of_ble_eq_true rfl) (Nat.le_of_ble_eq_true rfl) dJ3_checkIndex_8e157_17
set_option maxHeartbeats 4000000 in
set_option maxRecDepth 100000 in
theorem t_coder (l : Launch) (D : va_G) (cI cJ : ClassId) (sz : Nat) (mr : Nat → Nat) (mi : Nat → Int32) (mf : Nat → Nat → Int32) (mg : Nat → Nat → Int64)  (ad av : Nat → Nat) (tf i : Nat) (hi : i < 7)  : Met l yJ0_coder_7d493 (Cond.code yJ0_coder_7d493 cJ0_coder_7d493 1 (some .byte) :: GW) ({ frames := 1, cells := 0, slots := 0, locals := 40 } : Room) (va_Pc [.ref (ad i)] (PW D cI cJ sz (WZ_Es cI cJ mr mi mf mg) (xS ad av tf (va_A (WZ_Es cI cJ mr mi mf mg) sz)))) (va_Qi (fun (r : Int32) (u : Unit) => ((r = 0))) (fun u => QW D cI cJ (va_A (WZ_Es cI cJ mr mi mf mg) sz) ((fun (u : Unit) => (WZ_Es cI cJ mr mi mf mg)) u)) (va_A (WZ_Es cI cJ mr mi mf mg) sz)) 0 0 (va_A (WZ_Es cI cJ mr mi mf mg) sz) := by
  refine mk_metA (X := fun A => xS ad av tf A) (y := yJ0_coder_7d493) (bytes := cJ0_coder_7d493) (maxL := 1) (avs := [.ref (ad i)]) (WS := (WZ_Es cI cJ mr mi mf mg)) (Qf := fun A => va_Qi (fun (r : Int32) (u : Unit) => ((r = 0))) (fun u => QW D cI cJ A ((fun (u : Unit) => (WZ_Es cI cJ mr mi mf mg)) u)) A) (by decide) (Nat.le_of_ble_eq_true rfl) ?_
  intro p e s m below meth c A ls E hr hlk hnm hX hw1 hl2
  have hl3 : lv_has ls 1 [(0, .ref (ad i))] := hl2
  refine x_gets (pc := 0) E hw1 hX.2.1 q_741 rfl dJ0_coder_7d493_0 ?_
  refine lv_if_eq (pc := 3) (tgt := 13) E.1 E.2.1 dJ0_coder_7d493_3 (by decide) (fun c_4 => absurd c_4 (mneE (a := 1) (b := 0) (by decide +kernel) (by decide +kernel) (by omega))) (fun _ => ?_)
  refine lv_aload_n (pc := 6) E.1 E.2.1 dJ0_coder_7d493_6 rfl (lv_at hl3 0 rfl) ?_
  refine x_sf (pc := 7) E hw1 (hX.1.1 i hi).2.1 q_2146 rfl dJ0_coder_7d493_7 ?_
  refine lv_goto (pc := 10) (tgt := 14) E.1 E.2.1 dJ0_coder_7d493_10 (by decide) ?_
  exact em_t (w1 := (fun (u : Unit) => (WZ_Es cI cJ mr mi mf mg))) E hr hlk () hw1 (rfl) (by decide +kernel) (Nat.le_of_ble_eq_true rfl) (Nat.le_of_ble_eq_true rfl) dJ0_coder_7d493_14
set_option maxHeartbeats 4000000 in
set_option maxRecDepth 100000 in
theorem t_isLatin1 (l : Launch) (D : va_G) (cI cJ : ClassId) (sz : Nat) (mr : Nat → Nat) (mi : Nat → Int32) (mf : Nat → Nat → Int32) (mg : Nat → Nat → Int64)  (ad av : Nat → Nat) (tf i : Nat) (hi : i < 7)  : Met l yJ0_isLatin1_aae02 (Cond.code yJ0_isLatin1_aae02 cJ0_isLatin1_aae02 1 (some .boolean) :: GW) ({ frames := 1, cells := 0, slots := 0, locals := 40 } : Room) (va_Pc [.ref (ad i)] (PW D cI cJ sz (WZ_Es cI cJ mr mi mf mg) (xS ad av tf (va_A (WZ_Es cI cJ mr mi mf mg) sz)))) (va_Qi (fun (r : Int32) (u : Unit) => ((r = 1))) (fun u => QW D cI cJ (va_A (WZ_Es cI cJ mr mi mf mg) sz) ((fun (u : Unit) => (WZ_Es cI cJ mr mi mf mg)) u)) (va_A (WZ_Es cI cJ mr mi mf mg) sz)) 0 0 (va_A (WZ_Es cI cJ mr mi mf mg) sz) := by
  refine mk_metA (X := fun A => xS ad av tf A) (y := yJ0_isLatin1_aae02) (bytes := cJ0_isLatin1_aae02) (maxL := 1) (avs := [.ref (ad i)]) (WS := (WZ_Es cI cJ mr mi mf mg)) (Qf := fun A => va_Qi (fun (r : Int32) (u : Unit) => ((r = 1))) (fun u => QW D cI cJ A ((fun (u : Unit) => (WZ_Es cI cJ mr mi mf mg)) u)) A) (by decide) (Nat.le_of_ble_eq_true rfl) ?_
  intro p e s m below meth c A ls E hr hlk hnm hX hw1 hl2
  have hl3 : lv_has ls 1 [(0, .ref (ad i))] := hl2
  refine x_gets (pc := 0) E hw1 hX.2.1 q_741 rfl dJ0_isLatin1_aae02_0 ?_
  refine lv_if_eq (pc := 3) (tgt := 17) E.1 E.2.1 dJ0_isLatin1_aae02_3 (by decide) (fun c_4 => absurd c_4 (mneE (a := 1) (b := 0) (by decide +kernel) (by decide +kernel) (by omega))) (fun _ => ?_)
  refine lv_aload_n (pc := 6) E.1 E.2.1 dJ0_isLatin1_aae02_6 rfl (lv_at hl3 0 rfl) ?_
  refine x_sf (pc := 7) E hw1 (hX.1.1 i hi).2.1 q_2146 rfl dJ0_isLatin1_aae02_7 ?_
  refine lv_if_ne (pc := 10) (tgt := 17) E.1 E.2.1 dJ0_isLatin1_aae02_10 (by decide) (fun c_5 => absurd (meqE (a := 0) (b := 0) (by decide +kernel) (by decide +kernel) (by omega)) c_5) (fun _ => ?_)
  refine lv_iconst (pc := 13) (v := 1) E.1 E.2.1 dJ0_isLatin1_aae02_13 (by decide +kernel) ?_
  refine lv_goto (pc := 14) (tgt := 18) E.1 E.2.1 dJ0_isLatin1_aae02_14 (by decide) ?_
  exact em_z (w1 := (fun (u : Unit) => (WZ_Es cI cJ mr mi mf mg))) E hr hlk () hw1 (rfl) (by decide +kernel) (Nat.le_of_ble_eq_true rfl) (Nat.le_of_ble_eq_true rfl) dJ0_isLatin1_aae02_18
