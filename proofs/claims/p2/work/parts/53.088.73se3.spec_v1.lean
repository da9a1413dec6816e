set_option maxHeartbeats 4000000 in
set_option maxRecDepth 100000 in
theorem t_appendW (l : Launch) (D : va_G) (cI cJ : ClassId) (sz : Nat) (mr : Nat → Nat) (mi : Nat → Int32) (mf : Nat → Nat → Int32) (mg : Nat → Nat → Int64) (z_number : Int32) (ad : Nat → Nat) (h0 : 0 ≤ (mi 2).toInt) (h1 : (mi 2).toInt ≤ 396) (a_signs : b255 (mf 1)) : Met l yX8_append (Cond.code yX8_append cX8_append 3 none :: GW) ({ frames := 1, cells := 0, slots := 0, locals := 40 } : Room) (va_Pc [.ref (mr 0), .int z_number] (PW D cI cJ sz (WZ_Tape cI cJ ad mr mi mf mg) xT)) (va_Qv (fun (u : (Nat → Int32) × Int32) => (u.2.toInt = (mi 2).toInt + 4) ∧ (b255 u.1) ∧ (u.1 = APn (mf 1) ((mi 2).toInt).toNat z_number 4)) (fun u => QW D cI cJ (va_A (WZ_Tape cI cJ ad mr mi mf mg) sz) ((fun (u : (Nat → Int32) × Int32) => (WZ_Tape cI cJ ad mr (upd mi 2 u.2) (va_up mf 1 u.1) mg)) u)) (va_A (WZ_Tape cI cJ ad mr mi mf mg) sz)) 0 0 (va_A (WZ_Tape cI cJ ad mr mi mf mg) sz) := by
  refine mk_met (y := yX8_append) (bytes := cX8_append) (maxL := 3) (avs := [.ref (mr 0), .int z_number]) (WS := (WZ_Tape cI cJ ad mr mi mf mg)) (Qf := fun A => va_Qv (fun (u : (Nat → Int32) × Int32) => (u.2.toInt = (mi 2).toInt + 4) ∧ (b255 u.1) ∧ (u.1 = APn (mf 1) ((mi 2).toInt).toNat z_number 4)) (fun u => QW D cI cJ A ((fun (u : (Nat → Int32) × Int32) => (WZ_Tape cI cJ ad mr (upd mi 2 u.2) (va_up mf 1 u.1) mg)) u)) A) (by decide) (Nat.le_of_ble_eq_true rfl) ?_
  intro p e s m below meth c A ls E hr hlk hnm hX hw1 hl2
  have hl3 : lv_has ls 3 [(0, .ref (mr 0)), (1, .int z_number)] := hl2
  refine lv_bipush (pc := 0) (v := 24) E.1 E.2.1 dX8_append_0 (by decide +kernel) ?_
  refine lv_istore_n (pc := 2) (lv' := [(2, .int 24), (0, .ref (mr 0)), (1, .int z_number)]) E.1 E.2.1 dX8_append_2 rfl hl3 (by decide) rfl (fun ls hl4 => ?_)
  have loop_5 : ∀ (k : Nat) (x_6 : Int32) (x_7 : Int32) (g_8 : Nat → Int32) (H : Heap) (locs : List Loc) (ls : Array Slot), ((-8) ≤ x_6.toInt) ∧ (x_6.toInt ≤ 24) ∧ (8 * x_7.toInt = 8 * (mi 2).toInt + 24 - x_6.toInt) ∧ b255 g_8 ∧ (g_8 = APn (mf 1) ((mi 2).toInt).toNat z_number (x_7.toInt - (mi 2).toInt).toNat) → x_6.toInt + 8 < (k : Int) → WD D A s.heap (WZ_Tape cI cJ ad mr (upd mi 2 x_7) (va_up mf 1 g_8) mg) H locs → lv_has ls 3 [(2, .int x_6), (0, .ref (mr 0)), (1, .int z_number)] → W p l e ({ frames := 1, cells := 0, slots := 0, locals := 40 } : Room) s m ([.ref (mr 0), .int z_number] : List Value).toArray below meth c H locs 0 0 (MQ below (va_Qv (fun (u : (Nat → Int32) × Int32) => (u.2.toInt = (mi 2).toInt + 4) ∧ (b255 u.1) ∧ (u.1 = APn (mf 1) ((mi 2).toInt).toNat z_number 4)) (fun u => QW D cI cJ A ((fun (u : (Nat → Int32) × Int32) => (WZ_Tape cI cJ ad mr (upd mi 2 u.2) (va_up mf 1 u.1) mg)) u)) A) ([.ref (mr 0), .int z_number] : List Value).toArray s 0 0 A) (F0 m 3 ls []) := by
    intro k
    induction k with
    | zero =>
      intro x_6 x_7 g_8 _ _ _ hinv hm
      obtain ⟨hi_8_0, hi_8_1, hi_8_2, hi_8_3, hi_8_4⟩ := hinv
      exact absurd hm (by omega)
    | succ k ih_9 =>
      intro x_6 x_7 g_8 H locs ls hinv hm hw10 hl11
      obtain ⟨hi_8_0, hi_8_1, hi_8_2, hi_8_3, hi_8_4⟩ := hinv
      refine lv_iload_n (pc := 3) E.1 E.2.1 dX8_append_3 rfl (lv_at hl11 0 rfl) ?_
      refine lv_if_lt (pc := 4) (tgt := 49) E.1 E.2.1 dX8_append_4 (by decide) (fun c_12 => ?_) (fun c_12 => ?_)
      · skip
        have hc_12 := ltE (a := x_6.toInt) (b := 0) rfl (by decide +kernel) c_12
        exact em_v (w1 := (fun (u : (Nat → Int32) × Int32) => (WZ_Tape cI cJ ad mr (upd mi 2 u.2) (va_up mf 1 u.1) mg))) E hr hlk (g_8, x_7) hw10 ⟨(by show x_7.toInt = (mi 2).toInt + 4; omega), hi_8_3, (show g_8 = APn (mf 1) ((mi 2).toInt).toNat z_number 4 from (by have q := hi_8_4; rw [show (x_7.toInt - (mi 2).toInt).toNat = 4 from by omega] at q; exact q))⟩ (Nat.le_of_ble_eq_true rfl) (Nat.le_of_ble_eq_true rfl) dX8_append_49
      · skip
        have hc_12 := nltE (a := x_6.toInt) (b := 0) rfl (by decide +kernel) c_12
        refine lv_aload_n (pc := 7) E.1 E.2.1 dX8_append_7 rfl (lv_at hl11 1 rfl) ?_
        refine x_get (pc := 8) (T := TX8) (N := 9) (ci := 8) (v := .int x_7) E hw10 inX8 0 1 q_538 rfl rfl (by decide) rfl rfl dX8_append_8 ?_
        refine lv_sipush (pc := 11) (v := 400) E.1 E.2.1 dX8_append_11 (by decide +kernel) ?_
        refine lv_icmp_ge (pc := 14) (tgt := 43) E.1 E.2.1 dX8_append_14 (by decide) (fun c_13 => absurd c_13 (mnleE (a := 400) (b := x_7.toInt) (by decide +kernel) rfl (by omega))) (fun _ => ?_)
        refine lv_aload_n (pc := 17) E.1 E.2.1 dX8_append_17 rfl (lv_at hl11 1 rfl) ?_
        refine x_get (pc := 18) (T := TX8) (N := 9) (ci := 8) (v := .ref (mr 1)) E hw10 inX8 0 0 q_537 rfl rfl (by decide) rfl rfl dX8_append_18 ?_
        refine lv_aload_n (pc := 21) E.1 E.2.1 dX8_append_21 rfl (lv_at hl11 1 rfl) ?_
        refine x_get (pc := 22) (T := TX8) (N := 9) (ci := 8) (v := .int x_7) E hw10 inX8 0 1 q_538 rfl rfl (by decide) rfl rfl dX8_append_22 ?_
        refine lv_iload_n (pc := 25) E.1 E.2.1 dX8_append_25 rfl (lv_at hl11 2 rfl) ?_
        refine lv_iload_n (pc := 26) E.1 E.2.1 dX8_append_26 rfl (lv_at hl11 0 rfl) ?_
        refine lv_iushr (pc := 27) E.1 E.2.1 dX8_append_27 rfl ?_
        refine lv_topi (fun v_14 ev_14 => ?_)
        refine lv_sipush (pc := 28) (v := 255) E.1 E.2.1 dX8_append_28 (by decide +kernel) ?_
        refine lv_iand (pc := 31) E.1 E.2.1 dX8_append_31 ?_
        refine lv_topi (fun v_15 ev_15 => ?_)
        have hbv_15 := and255 ev_15
        refine x_iastG (pc := 32) (f := g_8) (wf := fun g => (WZ_Tape cI cJ ad mr (upd mi 2 x_7) (va_up mf 1 g) mg)) E hw10 1 rfl (inbE (a := x_7.toInt) rfl (by omega)) (fun _ => rfl) dX8_append_32 (fun g_16 H locs eg_16 hw17 => ?_)
        have ha_18 : allR 400 (0) 255 g_16 := allR_upd hi_8_3 eg_16 (by omega)
        refine lv_aload_n (pc := 33) E.1 E.2.1 dX8_append_33 rfl (lv_at hl11 1 rfl) ?_
        refine lv_dup (pc := 34) E.1 E.2.1 dX8_append_34 rfl ?_
        refine x_get (pc := 35) (T := TX8) (N := 9) (ci := 8) (v := .int x_7) E hw17 inX8 0 1 q_538 rfl rfl (by decide) rfl rfl dX8_append_35 ?_
        refine lv_iconst (pc := 38) (v := 1) E.1 E.2.1 dX8_append_38 (by decide +kernel) ?_
        refine lv_iadd (pc := 39) E.1 E.2.1 dX8_append_39 ?_
        refine lv_topi (fun v_19 ev_19 => ?_)
        have hv_19 : v_19.toInt = x_7.toInt + 1 := by rw [ev_19]; exact addE rfl (by decide +kernel) (by omega)
        refine x_put (pc := 40) (T := TX8) (N := 9) (ci := 8) (ws' := (WZ_Tape cI cJ ad mr (upd mi 2 v_19) (va_up mf 1 g_16) mg)) E hw17 inX8 tyX8_ok nmX8 0 1 q_538 rfl rfl (by decide) rfl rfl rfl rfl (Nat.le_of_ble_eq_true rfl) rfl dX8_append_40 (fun H locs hw20 => ?_)
        obtain ⟨v_21, ev_21⟩ : ∃ z : Int32, x_6 + Int32.ofInt (-8) = z := ⟨_, rfl⟩
        have hv_21 : v_21.toInt = x_6.toInt + (-8) := by rw [← ev_21]; exact incE rfl (by decide) (by omega)
        refine lv_iinc (pc := 43) (v := v_21) (lv' := [(2, .int v_21), (0, .ref (mr 0)), (1, .int z_number)]) E.1 E.2.1 dX8_append_43 hl11 (k := 0) rfl ev_21 (by decide) rfl (fun ls hl22 => ?_)
        refine lv_goto (pc := 46) (tgt := 3) E.1 E.2.1 dX8_append_46 (by decide) ?_
        exact ih_9 v_21 v_19 g_16 _ _ _ ⟨(by show (-8) ≤ v_21.toInt; omega), (by show v_21.toInt ≤ 24; omega), (by show 8 * v_19.toInt = 8 * (mi 2).toInt + 24 - v_21.toInt; omega), ha_18, (APn_st (k := (x_7.toInt - (mi 2).toInt).toNat) hi_8_4 eg_16 (by omega) (byt_u ev_14 ev_15 (by omega) (by omega)) (by omega))⟩ (by omega) hw20 (lv_sub hl22 [0, 1, 2] rfl)
  exact loop_5 (Int.toNat (24 + 8) + 1) 24 (mi 2) (mf 1) _ _ _ ⟨(by show (-8) ≤ (24 : Int32).toInt; have k_0 : (24 : Int32).toInt = 24 := (by decide +kernel); omega), (by show (24 : Int32).toInt ≤ 24; have k_0 : (24 : Int32).toInt = 24 := (by decide +kernel); omega), (by show 8 * (mi 2).toInt = 8 * (mi 2).toInt + 24 - (24 : Int32).toInt; have k_0 : (24 : Int32).toInt = 24 := (by decide +kernel); omega), a_signs, (APn_0 (by omega))⟩ (by have k_0 : (24 : Int32).toInt = 24 := (by decide +kernel); omega) hw1 (lv_sub hl4 [0, 1, 2] rfl)

set_option maxHeartbeats 4000000 in
set_option maxRecDepth 100000 in
theorem t_wordsOf0W (l : Launch) (D : va_G) (cI cJ : ClassId) (sz : Nat) (mr : Nat → Nat) (mi : Nat → Int32) (mf : Nat → Nat → Int32) (mg : Nat → Nat → Int64) (z_text : Int32) (ad av : Nat → Nat) (tf : Value) (h0 : z_text.toInt = 0) : Met l yX8_wordsOf (Cond.code yX8_wordsOf cX8_wordsOf 1 (some (.object "java/lang/String")) :: GW) ({ frames := 1, cells := 0, slots := 0, locals := 40 } : Room) (va_Pc [.int z_text] (PW D cI cJ sz (WZ_Es cI cJ mr mi mf mg) (xT8 ad av tf (va_A (WZ_Es cI cJ mr mi mf mg) sz)))) (va_Qr (fun (u : Int32) => (1 ≤ u.toInt) ∧ (u.toInt ≤ 1)) (fun u ra t => ra = ad (ti u) ∧ QW D cI cJ (va_A (WZ_Es cI cJ mr mi mf mg) sz) (WZ_Es cI cJ mr mi mf mg) t) (va_A (WZ_Es cI cJ mr mi mf mg) sz)) 0 0 (va_A (WZ_Es cI cJ mr mi mf mg) sz) := by
  refine mk_metA (X := fun A => xT8 ad av tf A) (y := yX8_wordsOf) (bytes := cX8_wordsOf) (maxL := 1) (avs := [.int z_text]) (WS := (WZ_Es cI cJ mr mi mf mg)) (Qf := fun A => va_Qr (fun (u : Int32) => (1 ≤ u.toInt) ∧ (u.toInt ≤ 1)) (fun u ra t => ra = ad (ti u) ∧ QW D cI cJ A (WZ_Es cI cJ mr mi mf mg) t) A) (by decide) (Nat.le_of_ble_eq_true rfl) ?_
  intro p e s m below meth c A ls E hr hlk hnm hX hw1 hl2
  have hl3 : lv_has ls 1 [(0, .int z_text)] := hl2
  refine lv_iload_n (pc := 0) E.1 E.2.1 dX8_wordsOf_0 rfl (lv_at hl3 0 rfl) ?_
  rcases swt (x := z_text) 0 4 with hsw_4 | ⟨hsw_4k, hsw_41, hsw_42, hsw_4⟩
  · skip
    exfalso; omega
  · skip
    rcases (show hsw_4k = 0 ∨ hsw_4k = 1 ∨ hsw_4k = 2 ∨ hsw_4k = 3 ∨ hsw_4k = 4 from by omega) with rfl | rfl | rfl | rfl | rfl
    · skip
      have hsw_4v : z_text.toInt = 0 := hsw_4
      have hsw_4e : z_text = 0 := Int32.toInt_inj.mp (by rw [hsw_4]; decide +kernel)
      refine lv_tableIn (pc := 1) (off := 35) (tgt := 36) E.1 E.2.1 dX8_wordsOf_1 (by rw [hsw_4e]; decide +kernel) (by rw [hsw_4e]; decide +kernel) (by rw [hsw_4e]; decide +kernel) (by decide) ?_
      refine x_lds (pc := 36) E hX.2.2.1 dX8_wordsOf_36 ?_
      exact em_txq (k := 1) E hr hlk hw1 (by decide +kernel) rfl (Nat.le_of_ble_eq_true rfl) (Nat.le_of_ble_eq_true rfl) dX8_wordsOf_38
    · skip
      have hsw_4v : z_text.toInt = 1 := hsw_4
      have hsw_4e : z_text = 1 := Int32.toInt_inj.mp (by rw [hsw_4]; decide +kernel)
      refine lv_tableIn (pc := 1) (off := 38) (tgt := 39) E.1 E.2.1 dX8_wordsOf_1 (by rw [hsw_4e]; decide +kernel) (by rw [hsw_4e]; decide +kernel) (by rw [hsw_4e]; decide +kernel) (by decide) ?_
      exfalso; omega
    · skip
      have hsw_4v : z_text.toInt = 2 := hsw_4
      have hsw_4e : z_text = 2 := Int32.toInt_inj.mp (by rw [hsw_4]; decide +kernel)
      refine lv_tableIn (pc := 1) (off := 41) (tgt := 42) E.1 E.2.1 dX8_wordsOf_1 (by rw [hsw_4e]; decide +kernel) (by rw [hsw_4e]; decide +kernel) (by rw [hsw_4e]; decide +kernel) (by decide) ?_
      exfalso; omega
    · skip
      have hsw_4v : z_text.toInt = 3 := hsw_4
      have hsw_4e : z_text = 3 := Int32.toInt_inj.mp (by rw [hsw_4]; decide +kernel)
      refine lv_tableIn (pc := 1) (off := 44) (tgt := 45) E.1 E.2.1 dX8_wordsOf_1 (by rw [hsw_4e]; decide +kernel) (by rw [hsw_4e]; decide +kernel) (by rw [hsw_4e]; decide +kernel) (by decide) ?_
      exfalso; omega
    · skip
      have hsw_4v : z_text.toInt = 4 := hsw_4
      have hsw_4e : z_text = 4 := Int32.toInt_inj.mp (by rw [hsw_4]; decide +kernel)
      refine lv_tableIn (pc := 1) (off := 47) (tgt := 48) E.1 E.2.1 dX8_wordsOf_1 (by rw [hsw_4e]; decide +kernel) (by rw [hsw_4e]; decide +kernel) (by rw [hsw_4e]; decide +kernel) (by decide) ?_
      exfalso; omega

set_option maxHeartbeats 4000000 in
set_option maxRecDepth 100000 in
theorem t_wordsOf1W (l : Launch) (D : va_G) (cI cJ : ClassId) (sz : Nat) (mr : Nat → Nat) (mi : Nat → Int32) (mf : Nat → Nat → Int32) (mg : Nat → Nat → Int64) (z_text : Int32) (ad av : Nat → Nat) (tf : Value) (h0 : z_text.toInt = 1) : Met l yX8_wordsOf (Cond.code yX8_wordsOf cX8_wordsOf 1 (some (.object "java/lang/String")) :: GW) ({ frames := 1, cells := 0, slots := 0, locals := 40 } : Room) (va_Pc [.int z_text] (PW D cI cJ sz (WZ_Es cI cJ mr mi mf mg) (xT8 ad av tf (va_A (WZ_Es cI cJ mr mi mf mg) sz)))) (va_Qr (fun (u : Int32) => (2 ≤ u.toInt) ∧ (u.toInt ≤ 2)) (fun u ra t => ra = ad (ti u) ∧ QW D cI cJ (va_A (WZ_Es cI cJ mr mi mf mg) sz) (WZ_Es cI cJ mr mi mf mg) t) (va_A (WZ_Es cI cJ mr mi mf mg) sz)) 0 0 (va_A (WZ_Es cI cJ mr mi mf mg) sz) := by
  refine mk_metA (X := fun A => xT8 ad av tf A) (y := yX8_wordsOf) (bytes := cX8_wordsOf) (maxL := 1) (avs := [.int z_text]) (WS := (WZ_Es cI cJ mr mi mf mg)) (Qf := fun A => va_Qr (fun (u : Int32) => (2 ≤ u.toInt) ∧ (u.toInt ≤ 2)) (fun u ra t => ra = ad (ti u) ∧ QW D cI cJ A (WZ_Es cI cJ mr mi mf mg) t) A) (by decide) (Nat.le_of_ble_eq_true rfl) ?_
  intro p e s m below meth c A ls E hr hlk hnm hX hw1 hl2
  have hl3 : lv_has ls 1 [(0, .int z_text)] := hl2
  refine lv_iload_n (pc := 0) E.1 E.2.1 dX8_wordsOf_0 rfl (lv_at hl3 0 rfl) ?_
  rcases swt (x := z_text) 0 4 with hsw_4 | ⟨hsw_4k, hsw_41, hsw_42, hsw_4⟩
  · skip
    exfalso; omega
  · skip
    rcases (show hsw_4k = 0 ∨ hsw_4k = 1 ∨ hsw_4k = 2 ∨ hsw_4k = 3 ∨ hsw_4k = 4 from by omega) with rfl | rfl | rfl | rfl | rfl
    · skip
      have hsw_4v : z_text.toInt = 0 := hsw_4
      have hsw_4e : z_text = 0 := Int32.toInt_inj.mp (by rw [hsw_4]; decide +kernel)
      refine lv_tableIn (pc := 1) (off := 35) (tgt := 36) E.1 E.2.1 dX8_wordsOf_1 (by rw [hsw_4e]; decide +kernel) (by rw [hsw_4e]; decide +kernel) (by rw [hsw_4e]; decide +kernel) (by decide) ?_
      exfalso; omega
    · skip
      have hsw_4v : z_text.toInt = 1 := hsw_4
      have hsw_4e : z_text = 1 := Int32.toInt_inj.mp (by rw [hsw_4]; decide +kernel)
      refine lv_tableIn (pc := 1) (off := 38) (tgt := 39) E.1 E.2.1 dX8_wordsOf_1 (by rw [hsw_4e]; decide +kernel) (by rw [hsw_4e]; decide +kernel) (by rw [hsw_4e]; decide +kernel) (by decide) ?_
      refine x_lds (pc := 39) E hX.2.2.2.1 dX8_wordsOf_39 ?_
      exact em_txq (k := 2) E hr hlk hw1 (by decide +kernel) rfl (Nat.le_of_ble_eq_true rfl) (Nat.le_of_ble_eq_true rfl) dX8_wordsOf_41
    · skip
      have hsw_4v : z_text.toInt = 2 := hsw_4
      have hsw_4e : z_text = 2 := Int32.toInt_inj.mp (by rw [hsw_4]; decide +kernel)
      refine lv_tableIn (pc := 1) (off := 41) (tgt := 42) E.1 E.2.1 dX8_wordsOf_1 (by rw [hsw_4e]; decide +kernel) (by rw [hsw_4e]; decide +kernel) (by rw [hsw_4e]; decide +kernel) (by decide) ?_
      exfalso; omega
    · skip
      have hsw_4v : z_text.toInt = 3 := hsw_4
      have hsw_4e : z_text = 3 := Int32.toInt_inj.mp (by rw [hsw_4]; decide +kernel)
      refine lv_tableIn (pc := 1) (off := 44) (tgt := 45) E.1 E.2.1 dX8_wordsOf_1 (by rw [hsw_4e]; decide +kernel) (by rw [hsw_4e]; decide +kernel) (by rw [hsw_4e]; decide +kernel) (by decide) ?_
      exfalso; omega
    · skip
      have hsw_4v : z_text.toInt = 4 := hsw_4
      have hsw_4e : z_text = 4 := Int32.toInt_inj.mp (by rw [hsw_4]; decide +kernel)
      refine lv_tableIn (pc := 1) (off := 47) (tgt := 48) E.1 E.2.1 dX8_wordsOf_1 (by rw [hsw_4e]; decide +kernel) (by rw [hsw_4e]; decide +kernel) (by rw [hsw_4e]; decide +kernel) (by decide) ?_
      exfalso; omega

set_option maxHeartbeats 4000000 in
set_option maxRecDepth 100000 in
theorem t_wordsOf2W (l : Launch) (D : va_G) (cI cJ : ClassId) (sz : Nat) (mr : Nat → Nat) (mi : Nat → Int32) (mf : Nat → Nat → Int32) (mg : Nat → Nat → Int64) (z_text : Int32) (ad av : Nat → Nat) (tf : Value) (h0 : z_text.toInt = 2) : Met l yX8_wordsOf (Cond.code yX8_wordsOf cX8_wordsOf 1 (some (.object "java/lang/String")) :: GW) ({ frames := 1, cells := 0, slots := 0, locals := 40 } : Room) (va_Pc [.int z_text] (PW D cI cJ sz (WZ_Es cI cJ mr mi mf mg) (xT8 ad av tf (va_A (WZ_Es cI cJ mr mi mf mg) sz)))) (va_Qr (fun (u : Int32) => (3 ≤ u.toInt) ∧ (u.toInt ≤ 3)) (fun u ra t => ra = ad (ti u) ∧ QW D cI cJ (va_A (WZ_Es cI cJ mr mi mf mg) sz) (WZ_Es cI cJ mr mi mf mg) t) (va_A (WZ_Es cI cJ mr mi mf mg) sz)) 0 0 (va_A (WZ_Es cI cJ mr mi mf mg) sz) := by
  refine mk_metA (X := fun A => xT8 ad av tf A) (y := yX8_wordsOf) (bytes := cX8_wordsOf) (maxL := 1) (avs := [.int z_text]) (WS := (WZ_Es cI cJ mr mi mf mg)) (Qf := fun A => va_Qr (fun (u : Int32) => (3 ≤ u.toInt) ∧ (u.toInt ≤ 3)) (fun u ra t => ra = ad (ti u) ∧ QW D cI cJ A (WZ_Es cI cJ mr mi mf mg) t) A) (by decide) (Nat.le_of_ble_eq_true rfl) ?_
  intro p e s m below meth c A ls E hr hlk hnm hX hw1 hl2
  have hl3 : lv_has ls 1 [(0, .int z_text)] := hl2
  refine lv_iload_n (pc := 0) E.1 E.2.1 dX8_wordsOf_0 rfl (lv_at hl3 0 rfl) ?_
  rcases swt (x := z_text) 0 4 with hsw_4 | ⟨hsw_4k, hsw_41, hsw_42, hsw_4⟩
  · skip
    exfalso; omega
  · skip
    rcases (show hsw_4k = 0 ∨ hsw_4k = 1 ∨ hsw_4k = 2 ∨ hsw_4k = 3 ∨ hsw_4k = 4 from by omega) with rfl | rfl | rfl | rfl | rfl
    · skip
      have hsw_4v : z_text.toInt = 0 := hsw_4
      have hsw_4e : z_text = 0 := Int32.toInt_inj.mp (by rw [hsw_4]; decide +kernel)
      refine lv_tableIn (pc := 1) (off := 35) (tgt := 36) E.1 E.2.1 dX8_wordsOf_1 (by rw [hsw_4e]; decide +kernel) (by rw [hsw_4e]; decide +kernel) (by rw [hsw_4e]; decide +kernel) (by decide) ?_
      exfalso; omega
    · skip
      have hsw_4v : z_text.toInt = 1 := hsw_4
      have hsw_4e : z_text = 1 := Int32.toInt_inj.mp (by rw [hsw_4]; decide +kernel)
      refine lv_tableIn (pc := 1) (off := 38) (tgt := 39) E.1 E.2.1 dX8_wordsOf_1 (by rw [hsw_4e]; decide +kernel) (by rw [hsw_4e]; decide +kernel) (by rw [hsw_4e]; decide +kernel) (by decide) ?_
      exfalso; omega
    · skip
      have hsw_4v : z_text.toInt = 2 := hsw_4
      have hsw_4e : z_text = 2 := Int32.toInt_inj.mp (by rw [hsw_4]; decide +kernel)
      refine lv_tableIn (pc := 1) (off := 41) (tgt := 42) E.1 E.2.1 dX8_wordsOf_1 (by rw [hsw_4e]; decide +kernel) (by rw [hsw_4e]; decide +kernel) (by rw [hsw_4e]; decide +kernel) (by decide) ?_
      refine x_lds (pc := 42) E hX.2.2.2.2.1 dX8_wordsOf_42 ?_
      exact em_txq (k := 3) E hr hlk hw1 (by decide +kernel) rfl (Nat.le_of_ble_eq_true rfl) (Nat.le_of_ble_eq_true rfl) dX8_wordsOf_44
    · skip
      have hsw_4v : z_text.toInt = 3 := hsw_4
      have hsw_4e : z_text = 3 := Int32.toInt_inj.mp (by rw [hsw_4]; decide +kernel)
      refine lv_tableIn (pc := 1) (off := 44) (tgt := 45) E.1 E.2.1 dX8_wordsOf_1 (by rw [hsw_4e]; decide +kernel) (by rw [hsw_4e]; decide +kernel) (by rw [hsw_4e]; decide +kernel) (by decide) ?_
      exfalso; omega
    · skip
      have hsw_4v : z_text.toInt = 4 := hsw_4
      have hsw_4e : z_text = 4 := Int32.toInt_inj.mp (by rw [hsw_4]; decide +kernel)
      refine lv_tableIn (pc := 1) (off := 47) (tgt := 48) E.1 E.2.1 dX8_wordsOf_1 (by rw [hsw_4e]; decide +kernel) (by rw [hsw_4e]; decide +kernel) (by rw [hsw_4e]; decide +kernel) (by decide) ?_
      exfalso; omega

set_option maxHeartbeats 4000000 in
set_option maxRecDepth 100000 in
theorem t_wordsOf3W (l : Launch) (D : va_G) (cI cJ : ClassId) (sz : Nat) (mr : Nat → Nat) (mi : Nat → Int32) (mf : Nat → Nat → Int32) (mg : Nat → Nat → Int64) (z_text : Int32) (ad av : Nat → Nat) (tf : Value) (h0 : z_text.toInt = 3) : Met l yX8_wordsOf (Cond.code yX8_wordsOf cX8_wordsOf 1 (some (.object "java/lang/String")) :: GW) ({ frames := 1, cells := 0, slots := 0, locals := 40 } : Room) (va_Pc [.int z_text] (PW D cI cJ sz (WZ_Es cI cJ mr mi mf mg) (xT8 ad av tf (va_A (WZ_Es cI cJ mr mi mf mg) sz)))) (va_Qr (fun (u : Int32) => (4 ≤ u.toInt) ∧ (u.toInt ≤ 4)) (fun u ra t => ra = ad (ti u) ∧ QW D cI cJ (va_A (WZ_Es cI cJ mr mi mf mg) sz) (WZ_Es cI cJ mr mi mf mg) t) (va_A (WZ_Es cI cJ mr mi mf mg) sz)) 0 0 (va_A (WZ_Es cI cJ mr mi mf mg) sz) := by
  refine mk_metA (X := fun A => xT8 ad av tf A) (y := yX8_wordsOf) (bytes := cX8_wordsOf) (maxL := 1) (avs := [.int z_text]) (WS := (WZ_Es cI cJ mr mi mf mg)) (Qf := fun A => va_Qr (fun (u : Int32) => (4 ≤ u.toInt) ∧ (u.toInt ≤ 4)) (fun u ra t => ra = ad (ti u) ∧ QW D cI cJ A (WZ_Es cI cJ mr mi mf mg) t) A) (by decide) (Nat.le_of_ble_eq_true rfl) ?_
  intro p e s m below meth c A ls E hr hlk hnm hX hw1 hl2
  have hl3 : lv_has ls 1 [(0, .int z_text)] := hl2
  refine lv_iload_n (pc := 0) E.1 E.2.1 dX8_wordsOf_0 rfl (lv_at hl3 0 rfl) ?_
  rcases swt (x := z_text) 0 4 with hsw_4 | ⟨hsw_4k, hsw_41, hsw_42, hsw_4⟩
  · skip
    exfalso; omega
  · skip
    rcases (show hsw_4k = 0 ∨ hsw_4k = 1 ∨ hsw_4k = 2 ∨ hsw_4k = 3 ∨ hsw_4k = 4 from by omega) with rfl | rfl | rfl | rfl | rfl
    · skip
      have hsw_4v : z_text.toInt = 0 := hsw_4
      have hsw_4e : z_text = 0 := Int32.toInt_inj.mp (by rw [hsw_4]; decide +kernel)
      refine lv_tableIn (pc := 1) (off := 35) (tgt := 36) E.1 E.2.1 dX8_wordsOf_1 (by rw [hsw_4e]; decide +kernel) (by rw [hsw_4e]; decide +kernel) (by rw [hsw_4e]; decide +kernel) (by decide) ?_
      exfalso; omega
    · skip
      have hsw_4v : z_text.toInt = 1 := hsw_4
      have hsw_4e : z_text = 1 := Int32.toInt_inj.mp (by rw [hsw_4]; decide +kernel)
      refine lv_tableIn (pc := 1) (off := 38) (tgt := 39) E.1 E.2.1 dX8_wordsOf_1 (by rw [hsw_4e]; decide +kernel) (by rw [hsw_4e]; decide +kernel) (by rw [hsw_4e]; decide +kernel) (by decide) ?_
      exfalso; omega
    · skip
      have hsw_4v : z_text.toInt = 2 := hsw_4
      have hsw_4e : z_text = 2 := Int32.toInt_inj.mp (by rw [hsw_4]; decide +kernel)
      refine lv_tableIn (pc := 1) (off := 41) (tgt := 42) E.1 E.2.1 dX8_wordsOf_1 (by rw [hsw_4e]; decide +kernel) (by rw [hsw_4e]; decide +kernel) (by rw [hsw_4e]; decide +kernel) (by decide) ?_
      exfalso; omega
    · skip
      have hsw_4v : z_text.toInt = 3 := hsw_4
      have hsw_4e : z_text = 3 := Int32.toInt_inj.mp (by rw [hsw_4]; decide +kernel)
      refine lv_tableIn (pc := 1) (off := 44) (tgt := 45) E.1 E.2.1 dX8_wordsOf_1 (by rw [hsw_4e]; decide +kernel) (by rw [hsw_4e]; decide +kernel) (by rw [hsw_4e]; decide +kernel) (by decide) ?_
      refine x_lds (pc := 45) E hX.2.2.2.2.2.1 dX8_wordsOf_45 ?_
      exact em_txq (k := 4) E hr hlk hw1 (by decide +kernel) rfl (Nat.le_of_ble_eq_true rfl) (Nat.le_of_ble_eq_true rfl) dX8_wordsOf_47
    · skip
      have hsw_4v : z_text.toInt = 4 := hsw_4
      have hsw_4e : z_text = 4 := Int32.toInt_inj.mp (by rw [hsw_4]; decide +kernel)
      refine lv_tableIn (pc := 1) (off := 47) (tgt := 48) E.1 E.2.1 dX8_wordsOf_1 (by rw [hsw_4e]; decide +kernel) (by rw [hsw_4e]; decide +kernel) (by rw [hsw_4e]; decide +kernel) (by decide) ?_
      exfalso; omega

set_option maxHeartbeats 4000000 in
set_option maxRecDepth 100000 in
theorem t_wordsOf4W (l : Launch) (D : va_G) (cI cJ : ClassId) (sz : Nat) (mr : Nat → Nat) (mi : Nat → Int32) (mf : Nat → Nat → Int32) (mg : Nat → Nat → Int64) (z_text : Int32) (ad av : Nat → Nat) (tf : Value) (h0 : z_text.toInt = 4) : Met l yX8_wordsOf (Cond.code yX8_wordsOf cX8_wordsOf 1 (some (.object "java/lang/String")) :: GW) ({ frames := 1, cells := 0, slots := 0, locals := 40 } : Room) (va_Pc [.int z_text] (PW D cI cJ sz (WZ_Es cI cJ mr mi mf mg) (xT8 ad av tf (va_A (WZ_Es cI cJ mr mi mf mg) sz)))) (va_Qr (fun (u : Int32) => (5 ≤ u.toInt) ∧ (u.toInt ≤ 5)) (fun u ra t => ra = ad (ti u) ∧ QW D cI cJ (va_A (WZ_Es cI cJ mr mi mf mg) sz) (WZ_Es cI cJ mr mi mf mg) t) (va_A (WZ_Es cI cJ mr mi mf mg) sz)) 0 0 (va_A (WZ_Es cI cJ mr mi mf mg) sz) := by
  refine mk_metA (X := fun A => xT8 ad av tf A) (y := yX8_wordsOf) (bytes := cX8_wordsOf) (maxL := 1) (avs := [.int z_text]) (WS := (WZ_Es cI cJ mr mi mf mg)) (Qf := fun A => va_Qr (fun (u : Int32) => (5 ≤ u.toInt) ∧ (u.toInt ≤ 5)) (fun u ra t => ra = ad (ti u) ∧ QW D cI cJ A (WZ_Es cI cJ mr mi mf mg) t) A) (by decide) (Nat.le_of_ble_eq_true rfl) ?_
  intro p e s m below meth c A ls E hr hlk hnm hX hw1 hl2
  have hl3 : lv_has ls 1 [(0, .int z_text)] := hl2
  refine lv_iload_n (pc := 0) E.1 E.2.1 dX8_wordsOf_0 rfl (lv_at hl3 0 rfl) ?_
  rcases swt (x := z_text) 0 4 with hsw_4 | ⟨hsw_4k, hsw_41, hsw_42, hsw_4⟩
  · skip
    exfalso; omega
  · skip
    rcases (show hsw_4k = 0 ∨ hsw_4k = 1 ∨ hsw_4k = 2 ∨ hsw_4k = 3 ∨ hsw_4k = 4 from by omega) with rfl | rfl | rfl | rfl | rfl
    · skip
      have hsw_4v : z_text.toInt = 0 := hsw_4
      have hsw_4e : z_text = 0 := Int32.toInt_inj.mp (by rw [hsw_4]; decide +kernel)
      refine lv_tableIn (pc := 1) (off := 35) (tgt := 36) E.1 E.2.1 dX8_wordsOf_1 (by rw [hsw_4e]; decide +kernel) (by rw [hsw_4e]; decide +kernel) (by rw [hsw_4e]; decide +kernel) (by decide) ?_
      exfalso; omega
    · skip
      have hsw_4v : z_text.toInt = 1 := hsw_4
      have hsw_4e : z_text = 1 := Int32.toInt_inj.mp (by rw [hsw_4]; decide +kernel)
      refine lv_tableIn (pc := 1) (off := 38) (tgt := 39) E.1 E.2.1 dX8_wordsOf_1 (by rw [hsw_4e]; decide +kernel) (by rw [hsw_4e]; decide +kernel) (by rw [hsw_4e]; decide +kernel) (by decide) ?_
      exfalso; omega
    · skip
      have hsw_4v : z_text.toInt = 2 := hsw_4
      have hsw_4e : z_text = 2 := Int32.toInt_inj.mp (by rw [hsw_4]; decide +kernel)
      refine lv_tableIn (pc := 1) (off := 41) (tgt := 42) E.1 E.2.1 dX8_wordsOf_1 (by rw [hsw_4e]; decide +kernel) (by rw [hsw_4e]; decide +kernel) (by rw [hsw_4e]; decide +kernel) (by decide) ?_
      exfalso; omega
    · skip
      have hsw_4v : z_text.toInt = 3 := hsw_4
      have hsw_4e : z_text = 3 := Int32.toInt_inj.mp (by rw [hsw_4]; decide +kernel)
      refine lv_tableIn (pc := 1) (off := 44) (tgt := 45) E.1 E.2.1 dX8_wordsOf_1 (by rw [hsw_4e]; decide +kernel) (by rw [hsw_4e]; decide +kernel) (by rw [hsw_4e]; decide +kernel) (by decide) ?_
      exfalso; omega
    · skip
      have hsw_4v : z_text.toInt = 4 := hsw_4
      have hsw_4e : z_text = 4 := Int32.toInt_inj.mp (by rw [hsw_4]; decide +kernel)
      refine lv_tableIn (pc := 1) (off := 47) (tgt := 48) E.1 E.2.1 dX8_wordsOf_1 (by rw [hsw_4e]; decide +kernel) (by rw [hsw_4e]; decide +kernel) (by rw [hsw_4e]; decide +kernel) (by decide) ?_
      refine x_lds (pc := 48) E hX.2.2.2.2.2.2.1 dX8_wordsOf_48 ?_
      exact em_txq (k := 5) E hr hlk hw1 (by decide +kernel) rfl (Nat.le_of_ble_eq_true rfl) (Nat.le_of_ble_eq_true rfl) dX8_wordsOf_50

set_option maxHeartbeats 4000000 in
set_option maxRecDepth 100000 in
theorem t_open0W (l : Launch) (D : va_G) (cI cJ : ClassId) (sz : Nat) (mr : Nat → Nat) (mi : Nat → Int32) (mf : Nat → Nat → Int32) (mg : Nat → Nat → Int64) (z_text : Int32) (ad av : Nat → Nat) (tf : Value) (h0 : 0 ≤ (mi 2).toInt ∧ (mi 2).toInt ≤ 400) (h1 : z_text.toInt = 0) (a_signs : b255 (mf 1)) : Met l yX8_open (Cond.code yX8_open cX8_open 2 none :: GW) ({ frames := 7, cells := 0, slots := 0, locals := 171 } : Room) (va_Pc [.ref (mr 0), .int z_text] (PW D cI cJ sz (WZ_Tape cI cJ ad mr mi mf mg) (xT8 ad av tf (va_A (WZ_Tape cI cJ ad mr mi mf mg) sz)))) (va_Qv (fun (u : Int32 × Int32 × Int32 × Int32 × Int32 × Int32 × Int32) => (0 ≤ u.1.toInt) ∧ (u.1.toInt ≤ (mi 2).toInt) ∧ (0 ≤ u.2.2.2.2.1.toInt) ∧ (u.2.2.2.2.1.toInt ≤ 6) ∧ (u.2.2.2.2.2.1.toInt = 0) ∧ (u.2.2.2.2.1.toInt = 1) ∧ (CS 1 (mf 1) (mi 2).toInt (.ok 0) u.2.2.2.2.2.1.toInt u.2.2.2.2.2.2.toInt u.1.toInt u.2.1.toInt u.2.2.1.toInt u.2.2.2.1.toInt)) (fun u => QW D cI cJ (va_A (WZ_Tape cI cJ ad mr mi mf mg) sz) ((fun (u : Int32 × Int32 × Int32 × Int32 × Int32 × Int32 × Int32) => (WZ_Tape cI cJ ad mr (upd (upd (upd (upd (upd (upd (upd mi 4 u.1) 7 u.2.1) 5 u.2.2.1) 6 u.2.2.2.1) 3 u.2.2.2.2.1) 8 u.2.2.2.2.2.1) 9 u.2.2.2.2.2.2) mf mg)) u)) (va_A (WZ_Tape cI cJ ad mr mi mf mg) sz)) 0 0 (va_A (WZ_Tape cI cJ ad mr mi mf mg) sz) := by
  refine mk_metA (X := fun A => xT8 ad av tf A) (y := yX8_open) (bytes := cX8_open) (maxL := 2) (avs := [.ref (mr 0), .int z_text]) (WS := (WZ_Tape cI cJ ad mr mi mf mg)) (Qf := fun A => va_Qv (fun (u : Int32 × Int32 × Int32 × Int32 × Int32 × Int32 × Int32) => (0 ≤ u.1.toInt) ∧ (u.1.toInt ≤ (mi 2).toInt) ∧ (0 ≤ u.2.2.2.2.1.toInt) ∧ (u.2.2.2.2.1.toInt ≤ 6) ∧ (u.2.2.2.2.2.1.toInt = 0) ∧ (u.2.2.2.2.1.toInt = 1) ∧ (CS 1 (mf 1) (mi 2).toInt (.ok 0) u.2.2.2.2.2.1.toInt u.2.2.2.2.2.2.toInt u.1.toInt u.2.1.toInt u.2.2.1.toInt u.2.2.2.1.toInt)) (fun u => QW D cI cJ A ((fun (u : Int32 × Int32 × Int32 × Int32 × Int32 × Int32 × Int32) => (WZ_Tape cI cJ ad mr (upd (upd (upd (upd (upd (upd (upd mi 4 u.1) 7 u.2.1) 5 u.2.2.1) 6 u.2.2.2.1) 3 u.2.2.2.2.1) 8 u.2.2.2.2.2.1) 9 u.2.2.2.2.2.2) mf mg)) u)) A) (by decide) (Nat.le_of_ble_eq_true rfl) ?_
  intro p e s m below meth c A ls E hr hlk hnm hX hw1 hl2
  have hl3 : lv_has ls 2 [(0, .ref (mr 0)), (1, .int z_text)] := hl2
  refine lv_aload_n (pc := 0) E.1 E.2.1 dX8_open_0 rfl (lv_at hl3 0 rfl) ?_
  refine lv_iload_n (pc := 1) E.1 E.2.1 dX8_open_1 rfl (lv_at hl3 1 rfl) ?_
  refine cq_tq (pc := 2) (ws' := (WZ_Tape cI cJ ad mr mi mf mg)) hw1 [] [0, 1] [0, 1] rfl rfl (by decide) (by decide) rfl (by decide) (rn_S (As := [.int z_text]) (rest := [.ref (mr 0)]) E hw1 (t_wordsOf0W l D cI cJ _ (ixf [] mr) (ixf [] mi) (ixf [] mf) (ixf [] mg) z_text ad av tf (by show z_text.toInt = 0; omega)) (gdS q_714 q_715 q_160 q_716) hdV_X8_wordsOf ⟨rfl, rfl⟩ ⟨(Nat.le_of_ble_eq_true rfl), (Nat.le_of_ble_eq_true rfl)⟩ ⟨(Nat.le_of_ble_eq_true rfl), (Nat.le_of_ble_eq_true rfl)⟩ xT8_b (xT8_at hX hw1.2.2.1 (va_free hw1.2.1 hw1.2.2.1 hw1.2.2.2 [] rfl)) [] rfl (by decide) rfl hl3.1 rfl (Nat.le_of_ble_eq_true rfl) dX8_open_2) (fun u_4 H1 locs hp hw5 => ?_)
  generalize H1 = H at hw5 ⊢
  have hw6 : WD D A s.heap (WZ_Tape cI cJ ad mr mi mf mg) H locs := hw5
  have hbu_4 : 1 ≤ u_4.toInt ∧ u_4.toInt ≤ 1 := hp
  refine x_put (pc := 5) (T := TX8) (N := 9) (ci := 8) (ws' := (WZ_Tape cI cJ ad mr (upd mi 3 u_4) mf mg)) E hw6 inX8 tyX8_ok nmX8 0 2 q_540 rfl rfl (by decide) rfl rfl rfl rfl (Nat.le_of_ble_eq_true rfl) rfl dX8_open_5 (fun H locs hw7 => ?_)
  refine lv_aload_n (pc := 8) E.1 E.2.1 dX8_open_8 rfl (lv_at hl3 0 rfl) ?_
  refine lv_iconst (pc := 9) (v := 0) E.1 E.2.1 dX8_open_9 (by decide +kernel) ?_
  refine x_put (pc := 10) (T := TX8) (N := 9) (ci := 8) (ws' := (WZ_Tape cI cJ ad mr (upd (upd mi 3 u_4) 8 0) mf mg)) E hw7 inX8 tyX8_ok nmX8 0 7 q_550 rfl rfl (by decide) rfl rfl rfl rfl (Nat.le_of_ble_eq_true rfl) rfl dX8_open_10 (fun H locs hw8 => ?_)
  refine lv_aload_n (pc := 13) E.1 E.2.1 dX8_open_13 rfl (lv_at hl3 0 rfl) ?_
  refine lv_iconst (pc := 14) (v := (-1)) E.1 E.2.1 dX8_open_14 (by decide +kernel) ?_
  refine x_put (pc := 15) (T := TX8) (N := 9) (ci := 8) (ws' := (WZ_Tape cI cJ ad mr (upd (upd (upd mi 3 u_4) 8 0) 9 (-1)) mf mg)) E hw8 inX8 tyX8_ok nmX8 0 8 q_556 rfl rfl (by decide) rfl rfl rfl rfl (Nat.le_of_ble_eq_true rfl) rfl dX8_open_15 (fun H locs hw9 => ?_)
  refine lv_aload_n (pc := 18) E.1 E.2.1 dX8_open_18 rfl (lv_at hl3 0 rfl) ?_
  refine lv_iconst (pc := 19) (v := 0) E.1 E.2.1 dX8_open_19 (by decide +kernel) ?_
  refine x_put (pc := 20) (T := TX8) (N := 9) (ci := 8) (ws' := (WZ_Tape cI cJ ad mr (upd (upd (upd (upd mi 3 u_4) 4 0) 8 0) 9 (-1)) mf mg)) E hw9 inX8 tyX8_ok nmX8 0 3 q_541 rfl rfl (by decide) rfl rfl rfl rfl (Nat.le_of_ble_eq_true rfl) rfl dX8_open_20 (fun H locs hw10 => ?_)
  refine lv_aload_n (pc := 23) E.1 E.2.1 dX8_open_23 rfl (lv_at hl3 0 rfl) ?_
  refine cq_v (pc := 24) (ws' := (fun (u : Int32 × Int32 × Int32 × Int32) => (WZ_Tape cI cJ ad mr (upd (upd (upd (upd (upd (upd (upd mi 3 u_4) 4 u.1) 5 u.2.2.1) 6 u.2.2.2) 7 u.2.1) 8 0) 9 (-1)) mf mg))) hw10 [0, 1] [] [0, 1] rfl rfl (by decide) (by decide) (fun _ => rfl) (by decide) (rn_V (As := []) (rest := []) E hw10 (t_stepW l D cI cJ _ (ixf [0, 1, 2, 3, 4, 5, 6, 7, 8, 9] mr) (ixf [0, 1, 2, 3, 4, 5, 6, 7, 8, 9] (upd (upd (upd (upd mi 3 u_4) 4 0) 8 0) 9 (-1))) (ixf [0, 1, 2, 3, 4, 5, 6, 7, 8, 9] mf) (ixf [0, 1, 2, 3, 4, 5, 6, 7, 8, 9] mg) ad av tf (by show 0 ≤ (mi 2).toInt ∧ (mi 2).toInt ≤ 400; omega) (by show 0 ≤ (0 : Int32).toInt; have k_0 : (0 : Int32).toInt = 0 := (by decide +kernel); omega) (by show (0 : Int32).toInt ≤ (mi 2).toInt; have k_0 : (0 : Int32).toInt = 0 := (by decide +kernel); omega) (by show 0 ≤ u_4.toInt ∧ u_4.toInt ≤ 6; omega) a_signs) (gdV q_722 q_723 q_724 q_160 q_725) hdV_X8_step ⟨rfl, rfl⟩ ⟨(Nat.le_of_ble_eq_true rfl), (Nat.le_of_ble_eq_true rfl)⟩ ⟨(Nat.le_of_ble_eq_true rfl), (Nat.le_of_ble_eq_true rfl)⟩ xT8_b (xT8_at hX hw10.2.2.1 (va_free hw10.2.1 hw10.2.2.1 hw10.2.2.2 [0, 1] rfl)) 0 8 rfl rfl rfl [0, 1] rfl (by decide) rfl hl3.1 rfl (Nat.le_of_ble_eq_true rfl) dX8_open_24) (fun u_11 H1 locs hp hw13 => ?_)
  obtain ⟨nat_14, nplace_15, nkind_16, nvalue_17⟩ := u_11
  generalize H1 = H at hw13 ⊢
  have hw18 : WD D A s.heap (WZ_Tape cI cJ ad mr (upd (upd (upd (upd (upd (upd (upd mi 3 u_4) 4 nat_14) 5 nkind_16) 6 nvalue_17) 7 nplace_15) 8 0) 9 (-1)) mf mg) H locs := hw13
  obtain ⟨hp_19, hp_20, hp_21⟩ := hp
  have hp_19 : 0 ≤ nat_14.toInt := hp_19
  have hp_20 : nat_14.toInt ≤ (mi 2).toInt := hp_20
  have hp_21 : (((0 : Int32).toInt ≠ 0 → nplace_15.toInt = (mi 7).toInt ∧ nat_14.toInt = (0 : Int32).toInt ∧ nkind_16.toInt = (mi 5).toInt ∧ nvalue_17.toInt = (mi 6).toInt) ∧ ((0 : Int32).toInt = 0 → TKS (ti u_4) (mf 1) (mi 2).toInt (0 : Int32).toInt nplace_15.toInt nat_14.toInt nkind_16.toInt nvalue_17.toInt)) := hp_21
  exact em_v (w1 := (fun (u : Int32 × Int32 × Int32 × Int32 × Int32 × Int32 × Int32) => (WZ_Tape cI cJ ad mr (upd (upd (upd (upd (upd (upd (upd mi 4 u.1) 7 u.2.1) 5 u.2.2.1) 6 u.2.2.2.1) 3 u.2.2.2.2.1) 8 u.2.2.2.2.2.1) 9 u.2.2.2.2.2.2) mf mg))) E hr hlk (nat_14, nplace_15, nkind_16, nvalue_17, u_4, 0, (-1)) hw18 ⟨(by show 0 ≤ nat_14.toInt; have k_0 : (0 : Int32).toInt = 0 := (by decide +kernel); have k_1 : ((-1) : Int32).toInt = -1 := (by decide +kernel); omega), (by show nat_14.toInt ≤ (mi 2).toInt; have k_0 : (0 : Int32).toInt = 0 := (by decide +kernel); have k_1 : ((-1) : Int32).toInt = -1 := (by decide +kernel); omega), (by show 0 ≤ u_4.toInt; have k_0 : (0 : Int32).toInt = 0 := (by decide +kernel); have k_1 : ((-1) : Int32).toInt = -1 := (by decide +kernel); omega), (by show u_4.toInt ≤ 6; have k_0 : (0 : Int32).toInt = 0 := (by decide +kernel); have k_1 : ((-1) : Int32).toInt = -1 := (by decide +kernel); omega), (by show (0 : Int32).toInt = 0; have k_0 : (0 : Int32).toInt = 0 := (by decide +kernel); have k_1 : ((-1) : Int32).toInt = -1 := (by decide +kernel); omega), (by show u_4.toInt = 1; have k_0 : (0 : Int32).toInt = 0 := (by decide +kernel); have k_1 : ((-1) : Int32).toInt = -1 := (by decide +kernel); omega), (show CS 1 (mf 1) (mi 2).toInt (.ok 0) (0 : Int32).toInt ((-1) : Int32).toInt nat_14.toInt nplace_15.toInt nkind_16.toInt nvalue_17.toInt from (CS_open (by first | rfl | omega | decide +kernel) (by first | rfl | decide +kernel) (by have q := hp_21.2; rw [ti_of (k := 1) (by omega)] at q; exact q)))⟩ (Nat.le_of_ble_eq_true rfl) (Nat.le_of_ble_eq_true rfl) dX8_open_27

set_option maxHeartbeats 4000000 in
set_option maxRecDepth 100000 in
theorem t_open1W (l : Launch) (D : va_G) (cI cJ : ClassId) (sz : Nat) (mr : Nat → Nat) (mi : Nat → Int32) (mf : Nat → Nat → Int32) (mg : Nat → Nat → Int64) (z_text : Int32) (ad av : Nat → Nat) (tf : Value) (h0 : 0 ≤ (mi 2).toInt ∧ (mi 2).toInt ≤ 400) (h1 : z_text.toInt = 1) (a_signs : b255 (mf 1)) : Met l yX8_open (Cond.code yX8_open cX8_open 2 none :: GW) ({ frames := 7, cells := 0, slots := 0, locals := 171 } : Room) (va_Pc [.ref (mr 0), .int z_text] (PW D cI cJ sz (WZ_Tape cI cJ ad mr mi mf mg) (xT8 ad av tf (va_A (WZ_Tape cI cJ ad mr mi mf mg) sz)))) (va_Qv (fun (u : Int32 × Int32 × Int32 × Int32 × Int32 × Int32 × Int32) => (0 ≤ u.1.toInt) ∧ (u.1.toInt ≤ (mi 2).toInt) ∧ (0 ≤ u.2.2.2.2.1.toInt) ∧ (u.2.2.2.2.1.toInt ≤ 6) ∧ (u.2.2.2.2.2.1.toInt = 0) ∧ (u.2.2.2.2.1.toInt = 2) ∧ (CS 2 (mf 1) (mi 2).toInt (.ok 0) u.2.2.2.2.2.1.toInt u.2.2.2.2.2.2.toInt u.1.toInt u.2.1.toInt u.2.2.1.toInt u.2.2.2.1.toInt)) (fun u => QW D cI cJ (va_A (WZ_Tape cI cJ ad mr mi mf mg) sz) ((fun (u : Int32 × Int32 × Int32 × Int32 × Int32 × Int32 × Int32) => (WZ_Tape cI cJ ad mr (upd (upd (upd (upd (upd (upd (upd mi 4 u.1) 7 u.2.1) 5 u.2.2.1) 6 u.2.2.2.1) 3 u.2.2.2.2.1) 8 u.2.2.2.2.2.1) 9 u.2.2.2.2.2.2) mf mg)) u)) (va_A (WZ_Tape cI cJ ad mr mi mf mg) sz)) 0 0 (va_A (WZ_Tape cI cJ ad mr mi mf mg) sz) := by
  refine mk_metA (X := fun A => xT8 ad av tf A) (y := yX8_open) (bytes := cX8_open) (maxL := 2) (avs := [.ref (mr 0), .int z_text]) (WS := (WZ_Tape cI cJ ad mr mi mf mg)) (Qf := fun A => va_Qv (fun (u : Int32 × Int32 × Int32 × Int32 × Int32 × Int32 × Int32) => (0 ≤ u.1.toInt) ∧ (u.1.toInt ≤ (mi 2).toInt) ∧ (0 ≤ u.2.2.2.2.1.toInt) ∧ (u.2.2.2.2.1.toInt ≤ 6) ∧ (u.2.2.2.2.2.1.toInt = 0) ∧ (u.2.2.2.2.1.toInt = 2) ∧ (CS 2 (mf 1) (mi 2).toInt (.ok 0) u.2.2.2.2.2.1.toInt u.2.2.2.2.2.2.toInt u.1.toInt u.2.1.toInt u.2.2.1.toInt u.2.2.2.1.toInt)) (fun u => QW D cI cJ A ((fun (u : Int32 × Int32 × Int32 × Int32 × Int32 × Int32 × Int32) => (WZ_Tape cI cJ ad mr (upd (upd (upd (upd (upd (upd (upd mi 4 u.1) 7 u.2.1) 5 u.2.2.1) 6 u.2.2.2.1) 3 u.2.2.2.2.1) 8 u.2.2.2.2.2.1) 9 u.2.2.2.2.2.2) mf mg)) u)) A) (by decide) (Nat.le_of_ble_eq_true rfl) ?_
  intro p e s m below meth c A ls E hr hlk hnm hX hw1 hl2
  have hl3 : lv_has ls 2 [(0, .ref (mr 0)), (1, .int z_text)] := hl2
  refine lv_aload_n (pc := 0) E.1 E.2.1 dX8_open_0 rfl (lv_at hl3 0 rfl) ?_
  refine lv_iload_n (pc := 1) E.1 E.2.1 dX8_open_1 rfl (lv_at hl3 1 rfl) ?_
  refine cq_tq (pc := 2) (ws' := (WZ_Tape cI cJ ad mr mi mf mg)) hw1 [] [0, 1] [0, 1] rfl rfl (by decide) (by decide) rfl (by decide) (rn_S (As := [.int z_text]) (rest := [.ref (mr 0)]) E hw1 (t_wordsOf1W l D cI cJ _ (ixf [] mr) (ixf [] mi) (ixf [] mf) (ixf [] mg) z_text ad av tf (by show z_text.toInt = 1; omega)) (gdS q_714 q_715 q_160 q_716) hdV_X8_wordsOf ⟨rfl, rfl⟩ ⟨(Nat.le_of_ble_eq_true rfl), (Nat.le_of_ble_eq_true rfl)⟩ ⟨(Nat.le_of_ble_eq_true rfl), (Nat.le_of_ble_eq_true rfl)⟩ xT8_b (xT8_at hX hw1.2.2.1 (va_free hw1.2.1 hw1.2.2.1 hw1.2.2.2 [] rfl)) [] rfl (by decide) rfl hl3.1 rfl (Nat.le_of_ble_eq_true rfl) dX8_open_2) (fun u_4 H1 locs hp hw5 => ?_)
  generalize H1 = H at hw5 ⊢
  have hw6 : WD D A s.heap (WZ_Tape cI cJ ad mr mi mf mg) H locs := hw5
  have hbu_4 : 2 ≤ u_4.toInt ∧ u_4.toInt ≤ 2 := hp
  refine x_put (pc := 5) (T := TX8) (N := 9) (ci := 8) (ws' := (WZ_Tape cI cJ ad mr (upd mi 3 u_4) mf mg)) E hw6 inX8 tyX8_ok nmX8 0 2 q_540 rfl rfl (by decide) rfl rfl rfl rfl (Nat.le_of_ble_eq_true rfl) rfl dX8_open_5 (fun H locs hw7 => ?_)
  refine lv_aload_n (pc := 8) E.1 E.2.1 dX8_open_8 rfl (lv_at hl3 0 rfl) ?_
  refine lv_iconst (pc := 9) (v := 0) E.1 E.2.1 dX8_open_9 (by decide +kernel) ?_
  refine x_put (pc := 10) (T := TX8) (N := 9) (ci := 8) (ws' := (WZ_Tape cI cJ ad mr (upd (upd mi 3 u_4) 8 0) mf mg)) E hw7 inX8 tyX8_ok nmX8 0 7 q_550 rfl rfl (by decide) rfl rfl rfl rfl (Nat.le_of_ble_eq_true rfl) rfl dX8_open_10 (fun H locs hw8 => ?_)
  refine lv_aload_n (pc := 13) E.1 E.2.1 dX8_open_13 rfl (lv_at hl3 0 rfl) ?_
  refine lv_iconst (pc := 14) (v := (-1)) E.1 E.2.1 dX8_open_14 (by decide +kernel) ?_
  refine x_put (pc := 15) (T := TX8) (N := 9) (ci := 8) (ws' := (WZ_Tape cI cJ ad mr (upd (upd (upd mi 3 u_4) 8 0) 9 (-1)) mf mg)) E hw8 inX8 tyX8_ok nmX8 0 8 q_556 rfl rfl (by decide) rfl rfl rfl rfl (Nat.le_of_ble_eq_true rfl) rfl dX8_open_15 (fun H locs hw9 => ?_)
  refine lv_aload_n (pc := 18) E.1 E.2.1 dX8_open_18 rfl (lv_at hl3 0 rfl) ?_
  refine lv_iconst (pc := 19) (v := 0) E.1 E.2.1 dX8_open_19 (by decide +kernel) ?_
  refine x_put (pc := 20) (T := TX8) (N := 9) (ci := 8) (ws' := (WZ_Tape cI cJ ad mr (upd (upd (upd (upd mi 3 u_4) 4 0) 8 0) 9 (-1)) mf mg)) E hw9 inX8 tyX8_ok nmX8 0 3 q_541 rfl rfl (by decide) rfl rfl rfl rfl (Nat.le_of_ble_eq_true rfl) rfl dX8_open_20 (fun H locs hw10 => ?_)
  refine lv_aload_n (pc := 23) E.1 E.2.1 dX8_open_23 rfl (lv_at hl3 0 rfl) ?_
  refine cq_v (pc := 24) (ws' := (fun (u : Int32 × Int32 × Int32 × Int32) => (WZ_Tape cI cJ ad mr (upd (upd (upd (upd (upd (upd (upd mi 3 u_4) 4 u.1) 5 u.2.2.1) 6 u.2.2.2) 7 u.2.1) 8 0) 9 (-1)) mf mg))) hw10 [0, 1] [] [0, 1] rfl rfl (by decide) (by decide) (fun _ => rfl) (by decide) (rn_V (As := []) (rest := []) E hw10 (t_stepW l D cI cJ _ (ixf [0, 1, 2, 3, 4, 5, 6, 7, 8, 9] mr) (ixf [0, 1, 2, 3, 4, 5, 6, 7, 8, 9] (upd (upd (upd (upd mi 3 u_4) 4 0) 8 0) 9 (-1))) (ixf [0, 1, 2, 3, 4, 5, 6, 7, 8, 9] mf) (ixf [0, 1, 2, 3, 4, 5, 6, 7, 8, 9] mg) ad av tf (by show 0 ≤ (mi 2).toInt ∧ (mi 2).toInt ≤ 400; omega) (by show 0 ≤ (0 : Int32).toInt; have k_0 : (0 : Int32).toInt = 0 := (by decide +kernel); omega) (by show (0 : Int32).toInt ≤ (mi 2).toInt; have k_0 : (0 : Int32).toInt = 0 := (by decide +kernel); omega) (by show 0 ≤ u_4.toInt ∧ u_4.toInt ≤ 6; omega) a_signs) (gdV q_722 q_723 q_724 q_160 q_725) hdV_X8_step ⟨rfl, rfl⟩ ⟨(Nat.le_of_ble_eq_true rfl), (Nat.le_of_ble_eq_true rfl)⟩ ⟨(Nat.le_of_ble_eq_true rfl), (Nat.le_of_ble_eq_true rfl)⟩ xT8_b (xT8_at hX hw10.2.2.1 (va_free hw10.2.1 hw10.2.2.1 hw10.2.2.2 [0, 1] rfl)) 0 8 rfl rfl rfl [0, 1] rfl (by decide) rfl hl3.1 rfl (Nat.le_of_ble_eq_true rfl) dX8_open_24) (fun u_11 H1 locs hp hw13 => ?_)
  obtain ⟨nat_14, nplace_15, nkind_16, nvalue_17⟩ := u_11
  generalize H1 = H at hw13 ⊢
  have hw18 : WD D A s.heap (WZ_Tape cI cJ ad mr (upd (upd (upd (upd (upd (upd (upd mi 3 u_4) 4 nat_14) 5 nkind_16) 6 nvalue_17) 7 nplace_15) 8 0) 9 (-1)) mf mg) H locs := hw13
  obtain ⟨hp_19, hp_20, hp_21⟩ := hp
  have hp_19 : 0 ≤ nat_14.toInt := hp_19
  have hp_20 : nat_14.toInt ≤ (mi 2).toInt := hp_20
  have hp_21 : (((0 : Int32).toInt ≠ 0 → nplace_15.toInt = (mi 7).toInt ∧ nat_14.toInt = (0 : Int32).toInt ∧ nkind_16.toInt = (mi 5).toInt ∧ nvalue_17.toInt = (mi 6).toInt) ∧ ((0 : Int32).toInt = 0 → TKS (ti u_4) (mf 1) (mi 2).toInt (0 : Int32).toInt nplace_15.toInt nat_14.toInt nkind_16.toInt nvalue_17.toInt)) := hp_21
  exact em_v (w1 := (fun (u : Int32 × Int32 × Int32 × Int32 × Int32 × Int32 × Int32) => (WZ_Tape cI cJ ad mr (upd (upd (upd (upd (upd (upd (upd mi 4 u.1) 7 u.2.1) 5 u.2.2.1) 6 u.2.2.2.1) 3 u.2.2.2.2.1) 8 u.2.2.2.2.2.1) 9 u.2.2.2.2.2.2) mf mg))) E hr hlk (nat_14, nplace_15, nkind_16, nvalue_17, u_4, 0, (-1)) hw18 ⟨(by show 0 ≤ nat_14.toInt; have k_0 : (0 : Int32).toInt = 0 := (by decide +kernel); have k_1 : ((-1) : Int32).toInt = -1 := (by decide +kernel); omega), (by show nat_14.toInt ≤ (mi 2).toInt; have k_0 : (0 : Int32).toInt = 0 := (by decide +kernel); have k_1 : ((-1) : Int32).toInt = -1 := (by decide +kernel); omega), (by show 0 ≤ u_4.toInt; have k_0 : (0 : Int32).toInt = 0 := (by decide +kernel); have k_1 : ((-1) : Int32).toInt = -1 := (by decide +kernel); omega), (by show u_4.toInt ≤ 6; have k_0 : (0 : Int32).toInt = 0 := (by decide +kernel); have k_1 : ((-1) : Int32).toInt = -1 := (by decide +kernel); omega), (by show (0 : Int32).toInt = 0; have k_0 : (0 : Int32).toInt = 0 := (by decide +kernel); have k_1 : ((-1) : Int32).toInt = -1 := (by decide +kernel); omega), (by show u_4.toInt = 2; have k_0 : (0 : Int32).toInt = 0 := (by decide +kernel); have k_1 : ((-1) : Int32).toInt = -1 := (by decide +kernel); omega), (show CS 2 (mf 1) (mi 2).toInt (.ok 0) (0 : Int32).toInt ((-1) : Int32).toInt nat_14.toInt nplace_15.toInt nkind_16.toInt nvalue_17.toInt from (CS_open (by first | rfl | omega | decide +kernel) (by first | rfl | decide +kernel) (by have q := hp_21.2; rw [ti_of (k := 2) (by omega)] at q; exact q)))⟩ (Nat.le_of_ble_eq_true rfl) (Nat.le_of_ble_eq_true rfl) dX8_open_27

set_option maxHeartbeats 4000000 in
set_option maxRecDepth 100000 in
theorem t_open2W (l : Launch) (D : va_G) (cI cJ : ClassId) (sz : Nat) (mr : Nat → Nat) (mi : Nat → Int32) (mf : Nat → Nat → Int32) (mg : Nat → Nat → Int64) (z_text : Int32) (ad av : Nat → Nat) (tf : Value) (h0 : 0 ≤ (mi 2).toInt ∧ (mi 2).toInt ≤ 400) (h1 : z_text.toInt = 2) (a_signs : b255 (mf 1)) : Met l yX8_open (Cond.code yX8_open cX8_open 2 none :: GW) ({ frames := 7, cells := 0, slots := 0, locals := 171 } : Room) (va_Pc [.ref (mr 0), .int z_text] (PW D cI cJ sz (WZ_Tape cI cJ ad mr mi mf mg) (xT8 ad av tf (va_A (WZ_Tape cI cJ ad mr mi mf mg) sz)))) (va_Qv (fun (u : Int32 × Int32 × Int32 × Int32 × Int32 × Int32 × Int32) => (0 ≤ u.1.toInt) ∧ (u.1.toInt ≤ (mi 2).toInt) ∧ (0 ≤ u.2.2.2.2.1.toInt) ∧ (u.2.2.2.2.1.toInt ≤ 6) ∧ (u.2.2.2.2.2.1.toInt = 0) ∧ (u.2.2.2.2.1.toInt = 3) ∧ (CS 3 (mf 1) (mi 2).toInt (.ok 0) u.2.2.2.2.2.1.toInt u.2.2.2.2.2.2.toInt u.1.toInt u.2.1.toInt u.2.2.1.toInt u.2.2.2.1.toInt)) (fun u => QW D cI cJ (va_A (WZ_Tape cI cJ ad mr mi mf mg) sz) ((fun (u : Int32 × Int32 × Int32 × Int32 × Int32 × Int32 × Int32) => (WZ_Tape cI cJ ad mr (upd (upd (upd (upd (upd (upd (upd mi 4 u.1) 7 u.2.1) 5 u.2.2.1) 6 u.2.2.2.1) 3 u.2.2.2.2.1) 8 u.2.2.2.2.2.1) 9 u.2.2.2.2.2.2) mf mg)) u)) (va_A (WZ_Tape cI cJ ad mr mi mf mg) sz)) 0 0 (va_A (WZ_Tape cI cJ ad mr mi mf mg) sz) := by
  refine mk_metA (X := fun A => xT8 ad av tf A) (y := yX8_open) (bytes := cX8_open) (maxL := 2) (avs := [.ref (mr 0), .int z_text]) (WS := (WZ_Tape cI cJ ad mr mi mf mg)) (Qf := fun A => va_Qv (fun (u : Int32 × Int32 × Int32 × Int32 × Int32 × Int32 × Int32) => (0 ≤ u.1.toInt) ∧ (u.1.toInt ≤ (mi 2).toInt) ∧ (0 ≤ u.2.2.2.2.1.toInt) ∧ (u.2.2.2.2.1.toInt ≤ 6) ∧ (u.2.2.2.2.2.1.toInt = 0) ∧ (u.2.2.2.2.1.toInt = 3) ∧ (CS 3 (mf 1) (mi 2).toInt (.ok 0) u.2.2.2.2.2.1.toInt u.2.2.2.2.2.2.toInt u.1.toInt u.2.1.toInt u.2.2.1.toInt u.2.2.2.1.toInt)) (fun u => QW D cI cJ A ((fun (u : Int32 × Int32 × Int32 × Int32 × Int32 × Int32 × Int32) => (WZ_Tape cI cJ ad mr (upd (upd (upd (upd (upd (upd (upd mi 4 u.1) 7 u.2.1) 5 u.2.2.1) 6 u.2.2.2.1) 3 u.2.2.2.2.1) 8 u.2.2.2.2.2.1) 9 u.2.2.2.2.2.2) mf mg)) u)) A) (by decide) (Nat.le_of_ble_eq_true rfl) ?_
  intro p e s m below meth c A ls E hr hlk hnm hX hw1 hl2
  have hl3 : lv_has ls 2 [(0, .ref (mr 0)), (1, .int z_text)] := hl2
  refine lv_aload_n (pc := 0) E.1 E.2.1 dX8_open_0 rfl (lv_at hl3 0 rfl) ?_
  refine lv_iload_n (pc := 1) E.1 E.2.1 dX8_open_1 rfl (lv_at hl3 1 rfl) ?_
  refine cq_tq (pc := 2) (ws' := (WZ_Tape cI cJ ad mr mi mf mg)) hw1 [] [0, 1] [0, 1] rfl rfl (by decide) (by decide) rfl (by decide) (rn_S (As := [.int z_text]) (rest := [.ref (mr 0)]) E hw1 (t_wordsOf2W l D cI cJ _ (ixf [] mr) (ixf [] mi) (ixf [] mf) (ixf [] mg) z_text ad av tf (by show z_text.toInt = 2; omega)) (gdS q_714 q_715 q_160 q_716) hdV_X8_wordsOf ⟨rfl, rfl⟩ ⟨(Nat.le_of_ble_eq_true rfl), (Nat.le_of_ble_eq_true rfl)⟩ ⟨(Nat.le_of_ble_eq_true rfl), (Nat.le_of_ble_eq_true rfl)⟩ xT8_b (xT8_at hX hw1.2.2.1 (va_free hw1.2.1 hw1.2.2.1 hw1.2.2.2 [] rfl)) [] rfl (by decide) rfl hl3.1 rfl (Nat.le_of_ble_eq_true rfl) dX8_open_2) (fun u_4 H1 locs hp hw5 => ?_)
  generalize H1 = H at hw5 ⊢
  have hw6 : WD D A s.heap (WZ_Tape cI cJ ad mr mi mf mg) H locs := hw5
  have hbu_4 : 3 ≤ u_4.toInt ∧ u_4.toInt ≤ 3 := hp
  refine x_put (pc := 5) (T := TX8) (N := 9) (ci := 8) (ws' := (WZ_Tape cI cJ ad mr (upd mi 3 u_4) mf mg)) E hw6 inX8 tyX8_ok nmX8 0 2 q_540 rfl rfl (by decide) rfl rfl rfl rfl (Nat.le_of_ble_eq_true rfl) rfl dX8_open_5 (fun H locs hw7 => ?_)
  refine lv_aload_n (pc := 8) E.1 E.2.1 dX8_open_8 rfl (lv_at hl3 0 rfl) ?_
  refine lv_iconst (pc := 9) (v := 0) E.1 E.2.1 dX8_open_9 (by decide +kernel) ?_
  refine x_put (pc := 10) (T := TX8) (N := 9) (ci := 8) (ws' := (WZ_Tape cI cJ ad mr (upd (upd mi 3 u_4) 8 0) mf mg)) E hw7 inX8 tyX8_ok nmX8 0 7 q_550 rfl rfl (by decide) rfl rfl rfl rfl (Nat.le_of_ble_eq_true rfl) rfl dX8_open_10 (fun H locs hw8 => ?_)
  refine lv_aload_n (pc := 13) E.1 E.2.1 dX8_open_13 rfl (lv_at hl3 0 rfl) ?_
  refine lv_iconst (pc := 14) (v := (-1)) E.1 E.2.1 dX8_open_14 (by decide +kernel) ?_
  refine x_put (pc := 15) (T := TX8) (N := 9) (ci := 8) (ws' := (WZ_Tape cI cJ ad mr (upd (upd (upd mi 3 u_4) 8 0) 9 (-1)) mf mg)) E hw8 inX8 tyX8_ok nmX8 0 8 q_556 rfl rfl (by decide) rfl rfl rfl rfl (Nat.le_of_ble_eq_true rfl) rfl dX8_open_15 (fun H locs hw9 => ?_)
  refine lv_aload_n (pc := 18) E.1 E.2.1 dX8_open_18 rfl (lv_at hl3 0 rfl) ?_
  refine lv_iconst (pc := 19) (v := 0) E.1 E.2.1 dX8_open_19 (by decide +kernel) ?_
  refine x_put (pc := 20) (T := TX8) (N := 9) (ci := 8) (ws' := (WZ_Tape cI cJ ad mr (upd (upd (upd (upd mi 3 u_4) 4 0) 8 0) 9 (-1)) mf mg)) E hw9 inX8 tyX8_ok nmX8 0 3 q_541 rfl rfl (by decide) rfl rfl rfl rfl (Nat.le_of_ble_eq_true rfl) rfl dX8_open_20 (fun H locs hw10 => ?_)
  refine lv_aload_n (pc := 23) E.1 E.2.1 dX8_open_23 rfl (lv_at hl3 0 rfl) ?_
  refine cq_v (pc := 24) (ws' := (fun (u : Int32 × Int32 × Int32 × Int32) => (WZ_Tape cI cJ ad mr (upd (upd (upd (upd (upd (upd (upd mi 3 u_4) 4 u.1) 5 u.2.2.1) 6 u.2.2.2) 7 u.2.1) 8 0) 9 (-1)) mf mg))) hw10 [0, 1] [] [0, 1] rfl rfl (by decide) (by decide) (fun _ => rfl) (by decide) (rn_V (As := []) (rest := []) E hw10 (t_stepW l D cI cJ _ (ixf [0, 1, 2, 3, 4, 5, 6, 7, 8, 9] mr) (ixf [0, 1, 2, 3, 4, 5, 6, 7, 8, 9] (upd (upd (upd (upd mi 3 u_4) 4 0) 8 0) 9 (-1))) (ixf [0, 1, 2, 3, 4, 5, 6, 7, 8, 9] mf) (ixf [0, 1, 2, 3, 4, 5, 6, 7, 8, 9] mg) ad av tf (by show 0 ≤ (mi 2).toInt ∧ (mi 2).toInt ≤ 400; omega) (by show 0 ≤ (0 : Int32).toInt; have k_0 : (0 : Int32).toInt = 0 := (by decide +kernel); omega) (by show (0 : Int32).toInt ≤ (mi 2).toInt; have k_0 : (0 : Int32).toInt = 0 := (by decide +kernel); omega) (by show 0 ≤ u_4.toInt ∧ u_4.toInt ≤ 6; omega) a_signs) (gdV q_722 q_723 q_724 q_160 q_725) hdV_X8_step ⟨rfl, rfl⟩ ⟨(Nat.le_of_ble_eq_true rfl), (Nat.le_of_ble_eq_true rfl)⟩ ⟨(Nat.le_of_ble_eq_true rfl), (Nat.le_of_ble_eq_true rfl)⟩ xT8_b (xT8_at hX hw10.2.2.1 (va_free hw10.2.1 hw10.2.2.1 hw10.2.2.2 [0, 1] rfl)) 0 8 rfl rfl rfl [0, 1] rfl (by decide) rfl hl3.1 rfl (Nat.le_of_ble_eq_true rfl) dX8_open_24) (fun u_11 H1 locs hp hw13 => ?_)
  obtain ⟨nat_14, nplace_15, nkind_16, nvalue_17⟩ := u_11
  generalize H1 = H at hw13 ⊢
  have hw18 : WD D A s.heap (WZ_Tape cI cJ ad mr (upd (upd (upd (upd (upd (upd (upd mi 3 u_4) 4 nat_14) 5 nkind_16) 6 nvalue_17) 7 nplace_15) 8 0) 9 (-1)) mf mg) H locs := hw13
  obtain ⟨hp_19, hp_20, hp_21⟩ := hp
  have hp_19 : 0 ≤ nat_14.toInt := hp_19
  have hp_20 : nat_14.toInt ≤ (mi 2).toInt := hp_20
  have hp_21 : (((0 : Int32).toInt ≠ 0 → nplace_15.toInt = (mi 7).toInt ∧ nat_14.toInt = (0 : Int32).toInt ∧ nkind_16.toInt = (mi 5).toInt ∧ nvalue_17.toInt = (mi 6).toInt) ∧ ((0 : Int32).toInt = 0 → TKS (ti u_4) (mf 1) (mi 2).toInt (0 : Int32).toInt nplace_15.toInt nat_14.toInt nkind_16.toInt nvalue_17.toInt)) := hp_21
  exact em_v (w1 := (fun (u : Int32 × Int32 × Int32 × Int32 × Int32 × Int32 × Int32) => (WZ_Tape cI cJ ad mr (upd (upd (upd (upd (upd (upd (upd mi 4 u.1) 7 u.2.1) 5 u.2.2.1) 6 u.2.2.2.1) 3 u.2.2.2.2.1) 8 u.2.2.2.2.2.1) 9 u.2.2.2.2.2.2) mf mg))) E hr hlk (nat_14, nplace_15, nkind_16, nvalue_17, u_4, 0, (-1)) hw18 ⟨(by show 0 ≤ nat_14.toInt; have k_0 : (0 : Int32).toInt = 0 := (by decide +kernel); have k_1 : ((-1) : Int32).toInt = -1 := (by decide +kernel); omega), (by show nat_14.toInt ≤ (mi 2).toInt; have k_0 : (0 : Int32).toInt = 0 := (by decide +kernel); have k_1 : ((-1) : Int32).toInt = -1 := (by decide +kernel); omega), (by show 0 ≤ u_4.toInt; have k_0 : (0 : Int32).toInt = 0 := (by decide +kernel); have k_1 : ((-1) : Int32).toInt = -1 := (by decide +kernel); omega), (by show u_4.toInt ≤ 6; have k_0 : (0 : Int32).toInt = 0 := (by decide +kernel); have k_1 : ((-1) : Int32).toInt = -1 := (by decide +kernel); omega), (by show (0 : Int32).toInt = 0; have k_0 : (0 : Int32).toInt = 0 := (by decide +kernel); have k_1 : ((-1) : Int32).toInt = -1 := (by decide +kernel); omega), (by show u_4.toInt = 3; have k_0 : (0 : Int32).toInt = 0 := (by decide +kernel); have k_1 : ((-1) : Int32).toInt = -1 := (by decide +kernel); omega), (show CS 3 (mf 1) (mi 2).toInt (.ok 0) (0 : Int32).toInt ((-1) : Int32).toInt nat_14.toInt nplace_15.toInt nkind_16.toInt nvalue_17.toInt from (CS_open (by first | rfl | omega | decide +kernel) (by first | rfl | decide +kernel) (by have q := hp_21.2; rw [ti_of (k := 3) (by omega)] at q; exact q)))⟩ (Nat.le_of_ble_eq_true rfl) (Nat.le_of_ble_eq_true rfl) dX8_open_27

set_option maxHeartbeats 4000000 in
set_option maxRecDepth 100000 in
theorem t_open3W (l : Launch) (D : va_G) (cI cJ : ClassId) (sz : Nat) (mr : Nat → Nat) (mi : Nat → Int32) (mf : Nat → Nat → Int32) (mg : Nat → Nat → Int64) (z_text : Int32) (ad av : Nat → Nat) (tf : Value) (h0 : 0 ≤ (mi 2).toInt ∧ (mi 2).toInt ≤ 400) (h1 : z_text.toInt = 3) (a_signs : b255 (mf 1)) : Met l yX8_open (Cond.code yX8_open cX8_open 2 none :: GW) ({ frames := 7, cells := 0, slots := 0, locals := 171 } : Room) (va_Pc [.ref (mr 0), .int z_text] (PW D cI cJ sz (WZ_Tape cI cJ ad mr mi mf mg) (xT8 ad av tf (va_A (WZ_Tape cI cJ ad mr mi mf mg) sz)))) (va_Qv (fun (u : Int32 × Int32 × Int32 × Int32 × Int32 × Int32 × Int32) => (0 ≤ u.1.toInt) ∧ (u.1.toInt ≤ (mi 2).toInt) ∧ (0 ≤ u.2.2.2.2.1.toInt) ∧ (u.2.2.2.2.1.toInt ≤ 6) ∧ (u.2.2.2.2.2.1.toInt = 0) ∧ (u.2.2.2.2.1.toInt = 4) ∧ (CS 4 (mf 1) (mi 2).toInt (.ok 0) u.2.2.2.2.2.1.toInt u.2.2.2.2.2.2.toInt u.1.toInt u.2.1.toInt u.2.2.1.toInt u.2.2.2.1.toInt)) (fun u => QW D cI cJ (va_A (WZ_Tape cI cJ ad mr mi mf mg) sz) ((fun (u : Int32 × Int32 × Int32 × Int32 × Int32 × Int32 × Int32) => (WZ_Tape cI cJ ad mr (upd (upd (upd (upd (upd (upd (upd mi 4 u.1) 7 u.2.1) 5 u.2.2.1) 6 u.2.2.2.1) 3 u.2.2.2.2.1) 8 u.2.2.2.2.2.1) 9 u.2.2.2.2.2.2) mf mg)) u)) (va_A (WZ_Tape cI cJ ad mr mi mf mg) sz)) 0 0 (va_A (WZ_Tape cI cJ ad mr mi mf mg) sz) := by
  refine mk_metA (X := fun A => xT8 ad av tf A) (y := yX8_open) (bytes := cX8_open) (maxL := 2) (avs := [.ref (mr 0), .int z_text]) (WS := (WZ_Tape cI cJ ad mr mi mf mg)) (Qf := fun A => va_Qv (fun (u : Int32 × Int32 × Int32 × Int32 × Int32 × Int32 × Int32) => (0 ≤ u.1.toInt) ∧ (u.1.toInt ≤ (mi 2).toInt) ∧ (0 ≤ u.2.2.2.2.1.toInt) ∧ (u.2.2.2.2.1.toInt ≤ 6) ∧ (u.2.2.2.2.2.1.toInt = 0) ∧ (u.2.2.2.2.1.toInt = 4) ∧ (CS 4 (mf 1) (mi 2).toInt (.ok 0) u.2.2.2.2.2.1.toInt u.2.2.2.2.2.2.toInt u.1.toInt u.2.1.toInt u.2.2.1.toInt u.2.2.2.1.toInt)) (fun u => QW D cI cJ A ((fun (u : Int32 × Int32 × Int32 × Int32 × Int32 × Int32 × Int32) => (WZ_Tape cI cJ ad mr (upd (upd (upd (upd (upd (upd (upd mi 4 u.1) 7 u.2.1) 5 u.2.2.1) 6 u.2.2.2.1) 3 u.2.2.2.2.1) 8 u.2.2.2.2.2.1) 9 u.2.2.2.2.2.2) mf mg)) u)) A) (by decide) (Nat.le_of_ble_eq_true rfl) ?_
  intro p e s m below meth c A ls E hr hlk hnm hX hw1 hl2
  have hl3 : lv_has ls 2 [(0, .ref (mr 0)), (1, .int z_text)] := hl2
  refine lv_aload_n (pc := 0) E.1 E.2.1 dX8_open_0 rfl (lv_at hl3 0 rfl) ?_
  refine lv_iload_n (pc := 1) E.1 E.2.1 dX8_open_1 rfl (lv_at hl3 1 rfl) ?_
  refine cq_tq (pc := 2) (ws' := (WZ_Tape cI cJ ad mr mi mf mg)) hw1 [] [0, 1] [0, 1] rfl rfl (by decide) (by decide) rfl (by decide) (rn_S (As := [.int z_text]) (rest := [.ref (mr 0)]) E hw1 (t_wordsOf3W l D cI cJ _ (ixf [] mr) (ixf [] mi) (ixf [] mf) (ixf [] mg) z_text ad av tf (by show z_text.toInt = 3; omega)) (gdS q_714 q_715 q_160 q_716) hdV_X8_wordsOf ⟨rfl, rfl⟩ ⟨(Nat.le_of_ble_eq_true rfl), (Nat.le_of_ble_eq_true rfl)⟩ ⟨(Nat.le_of_ble_eq_true rfl), (Nat.le_of_ble_eq_true rfl)⟩ xT8_b (xT8_at hX hw1.2.2.1 (va_free hw1.2.1 hw1.2.2.1 hw1.2.2.2 [] rfl)) [] rfl (by decide) rfl hl3.1 rfl (Nat.le_of_ble_eq_true rfl) dX8_open_2) (fun u_4 H1 locs hp hw5 => ?_)
  generalize H1 = H at hw5 ⊢
  have hw6 : WD D A s.heap (WZ_Tape cI cJ ad mr mi mf mg) H locs := hw5
  have hbu_4 : 4 ≤ u_4.toInt ∧ u_4.toInt ≤ 4 := hp
  refine x_put (pc := 5) (T := TX8) (N := 9) (ci := 8) (ws' := (WZ_Tape cI cJ ad mr (upd mi 3 u_4) mf mg)) E hw6 inX8 tyX8_ok nmX8 0 2 q_540 rfl rfl (by decide) rfl rfl rfl rfl (Nat.le_of_ble_eq_true rfl) rfl dX8_open_5 (fun H locs hw7 => ?_)
  refine lv_aload_n (pc := 8) E.1 E.2.1 dX8_open_8 rfl (lv_at hl3 0 rfl) ?_
  refine lv_iconst (pc := 9) (v := 0) E.1 E.2.1 dX8_open_9 (by decide +kernel) ?_
  refine x_put (pc := 10) (T := TX8) (N := 9) (ci := 8) (ws' := (WZ_Tape cI cJ ad mr (upd (upd mi 3 u_4) 8 0) mf mg)) E hw7 inX8 tyX8_ok nmX8 0 7 q_550 rfl rfl (by decide) rfl rfl rfl rfl (Nat.le_of_ble_eq_true rfl) rfl dX8_open_10 (fun H locs hw8 => ?_)
  refine lv_aload_n (pc := 13) E.1 E.2.1 dX8_open_13 rfl (lv_at hl3 0 rfl) ?_
  refine lv_iconst (pc := 14) (v := (-1)) E.1 E.2.1 dX8_open_14 (by decide +kernel) ?_
  refine x_put (pc := 15) (T := TX8) (N := 9) (ci := 8) (ws' := (WZ_Tape cI cJ ad mr (upd (upd (upd mi 3 u_4) 8 0) 9 (-1)) mf mg)) E hw8 inX8 tyX8_ok nmX8 0 8 q_556 rfl rfl (by decide) rfl rfl rfl rfl (Nat.le_of_ble_eq_true rfl) rfl dX8_open_15 (fun H locs hw9 => ?_)
  refine lv_aload_n (pc := 18) E.1 E.2.1 dX8_open_18 rfl (lv_at hl3 0 rfl) ?_
  refine lv_iconst (pc := 19) (v := 0) E.1 E.2.1 dX8_open_19 (by decide +kernel) ?_
  refine x_put (pc := 20) (T := TX8) (N := 9) (ci := 8) (ws' := (WZ_Tape cI cJ ad mr (upd (upd (upd (upd mi 3 u_4) 4 0) 8 0) 9 (-1)) mf mg)) E hw9 inX8 tyX8_ok nmX8 0 3 q_541 rfl rfl (by decide) rfl rfl rfl rfl (Nat.le_of_ble_eq_true rfl) rfl dX8_open_20 (fun H locs hw10 => ?_)
  refine lv_aload_n (pc := 23) E.1 E.2.1 dX8_open_23 rfl (lv_at hl3 0 rfl) ?_
  refine cq_v (pc := 24) (ws' := (fun (u : Int32 × Int32 × Int32 × Int32) => (WZ_Tape cI cJ ad mr (upd (upd (upd (upd (upd (upd (upd mi 3 u_4) 4 u.1) 5 u.2.2.1) 6 u.2.2.2) 7 u.2.1) 8 0) 9 (-1)) mf mg))) hw10 [0, 1] [] [0, 1] rfl rfl (by decide) (by decide) (fun _ => rfl) (by decide) (rn_V (As := []) (rest := []) E hw10 (t_stepW l D cI cJ _ (ixf [0, 1, 2, 3, 4, 5, 6, 7, 8, 9] mr) (ixf [0, 1, 2, 3, 4, 5, 6, 7, 8, 9] (upd (upd (upd (upd mi 3 u_4) 4 0) 8 0) 9 (-1))) (ixf [0, 1, 2, 3, 4, 5, 6, 7, 8, 9] mf) (ixf [0, 1, 2, 3, 4, 5, 6, 7, 8, 9] mg) ad av tf (by show 0 ≤ (mi 2).toInt ∧ (mi 2).toInt ≤ 400; omega) (by show 0 ≤ (0 : Int32).toInt; have k_0 : (0 : Int32).toInt = 0 := (by decide +kernel); omega) (by show (0 : Int32).toInt ≤ (mi 2).toInt; have k_0 : (0 : Int32).toInt = 0 := (by decide +kernel); omega) (by show 0 ≤ u_4.toInt ∧ u_4.toInt ≤ 6; omega) a_signs) (gdV q_722 q_723 q_724 q_160 q_725) hdV_X8_step ⟨rfl, rfl⟩ ⟨(Nat.le_of_ble_eq_true rfl), (Nat.le_of_ble_eq_true rfl)⟩ ⟨(Nat.le_of_ble_eq_true rfl), (Nat.le_of_ble_eq_true rfl)⟩ xT8_b (xT8_at hX hw10.2.2.1 (va_free hw10.2.1 hw10.2.2.1 hw10.2.2.2 [0, 1] rfl)) 0 8 rfl rfl rfl [0, 1] rfl (by decide) rfl hl3.1 rfl (Nat.le_of_ble_eq_true rfl) dX8_open_24) (fun u_11 H1 locs hp hw13 => ?_)
  obtain ⟨nat_14, nplace_15, nkind_16, nvalue_17⟩ := u_11
  generalize H1 = H at hw13 ⊢
  have hw18 : WD D A s.heap (WZ_Tape cI cJ ad mr (upd (upd (upd (upd (upd (upd (upd mi 3 u_4) 4 nat_14) 5 nkind_16) 6 nvalue_17) 7 nplace_15) 8 0) 9 (-1)) mf mg) H locs := hw13
  obtain ⟨hp_19, hp_20, hp_21⟩ := hp
  have hp_19 : 0 ≤ nat_14.toInt := hp_19
  have hp_20 : nat_14.toInt ≤ (mi 2).toInt := hp_20
  have hp_21 : (((0 : Int32).toInt ≠ 0 → nplace_15.toInt = (mi 7).toInt ∧ nat_14.toInt = (0 : Int32).toInt ∧ nkind_16.toInt = (mi 5).toInt ∧ nvalue_17.toInt = (mi 6).toInt) ∧ ((0 : Int32).toInt = 0 → TKS (ti u_4) (mf 1) (mi 2).toInt (0 : Int32).toInt nplace_15.toInt nat_14.toInt nkind_16.toInt nvalue_17.toInt)) := hp_21
  exact em_v (w1 := (fun (u : Int32 × Int32 × Int32 × Int32 × Int32 × Int32 × Int32) => (WZ_Tape cI cJ ad mr (upd (upd (upd (upd (upd (upd (upd mi 4 u.1) 7 u.2.1) 5 u.2.2.1) 6 u.2.2.2.1) 3 u.2.2.2.2.1) 8 u.2.2.2.2.2.1) 9 u.2.2.2.2.2.2) mf mg))) E hr hlk (nat_14, nplace_15, nkind_16, nvalue_17, u_4, 0, (-1)) hw18 ⟨(by show 0 ≤ nat_14.toInt; have k_0 : (0 : Int32).toInt = 0 := (by decide +kernel); have k_1 : ((-1) : Int32).toInt = -1 := (by decide +kernel); omega), (by show nat_14.toInt ≤ (mi 2).toInt; have k_0 : (0 : Int32).toInt = 0 := (by decide +kernel); have k_1 : ((-1) : Int32).toInt = -1 := (by decide +kernel); omega), (by show 0 ≤ u_4.toInt; have k_0 : (0 : Int32).toInt = 0 := (by decide +kernel); have k_1 : ((-1) : Int32).toInt = -1 := (by decide +kernel); omega), (by show u_4.toInt ≤ 6; have k_0 : (0 : Int32).toInt = 0 := (by decide +kernel); have k_1 : ((-1) : Int32).toInt = -1 := (by decide +kernel); omega), (by show (0 : Int32).toInt = 0; have k_0 : (0 : Int32).toInt = 0 := (by decide +kernel); have k_1 : ((-1) : Int32).toInt = -1 := (by decide +kernel); omega), (by show u_4.toInt = 4; have k_0 : (0 : Int32).toInt = 0 := (by decide +kernel); have k_1 : ((-1) : Int32).toInt = -1 := (by decide +kernel); omega), (show CS 4 (mf 1) (mi 2).toInt (.ok 0) (0 : Int32).toInt ((-1) : Int32).toInt nat_14.toInt nplace_15.toInt nkind_16.toInt nvalue_17.toInt from (CS_open (by first | rfl | omega | decide +kernel) (by first | rfl | decide +kernel) (by have q := hp_21.2; rw [ti_of (k := 4) (by omega)] at q; exact q)))⟩ (Nat.le_of_ble_eq_true rfl) (Nat.le_of_ble_eq_true rfl) dX8_open_27

set_option maxHeartbeats 4000000 in
set_option maxRecDepth 100000 in
theorem t_open4W (l : Launch) (D : va_G) (cI cJ : ClassId) (sz : Nat) (mr : Nat → Nat) (mi : Nat → Int32) (mf : Nat → Nat → Int32) (mg : Nat → Nat → Int64) (z_text : Int32) (ad av : Nat → Nat) (tf : Value) (h0 : 0 ≤ (mi 2).toInt ∧ (mi 2).toInt ≤ 400) (h1 : z_text.toInt = 4) (a_signs : b255 (mf 1)) : Met l yX8_open (Cond.code yX8_open cX8_open 2 none :: GW) ({ frames := 7, cells := 0, slots := 0, locals := 171 } : Room) (va_Pc [.ref (mr 0), .int z_text] (PW D cI cJ sz (WZ_Tape cI cJ ad mr mi mf mg) (xT8 ad av tf (va_A (WZ_Tape cI cJ ad mr mi mf mg) sz)))) (va_Qv (fun (u : Int32 × Int32 × Int32 × Int32 × Int32 × Int32 × Int32) => (0 ≤ u.1.toInt) ∧ (u.1.toInt ≤ (mi 2).toInt) ∧ (0 ≤ u.2.2.2.2.1.toInt) ∧ (u.2.2.2.2.1.toInt ≤ 6) ∧ (u.2.2.2.2.2.1.toInt = 0) ∧ (u.2.2.2.2.1.toInt = 5) ∧ (CS 5 (mf 1) (mi 2).toInt (.ok 0) u.2.2.2.2.2.1.toInt u.2.2.2.2.2.2.toInt u.1.toInt u.2.1.toInt u.2.2.1.toInt u.2.2.2.1.toInt)) (fun u => QW D cI cJ (va_A (WZ_Tape cI cJ ad mr mi mf mg) sz) ((fun (u : Int32 × Int32 × Int32 × Int32 × Int32 × Int32 × Int32) => (WZ_Tape cI cJ ad mr (upd (upd (upd (upd (upd (upd (upd mi 4 u.1) 7 u.2.1) 5 u.2.2.1) 6 u.2.2.2.1) 3 u.2.2.2.2.1) 8 u.2.2.2.2.2.1) 9 u.2.2.2.2.2.2) mf mg)) u)) (va_A (WZ_Tape cI cJ ad mr mi mf mg) sz)) 0 0 (va_A (WZ_Tape cI cJ ad mr mi mf mg) sz) := by
  refine mk_metA (X := fun A => xT8 ad av tf A) (y := yX8_open) (bytes := cX8_open) (maxL := 2) (avs := [.ref (mr 0), .int z_text]) (WS := (WZ_Tape cI cJ ad mr mi mf mg)) (Qf := fun A => va_Qv (fun (u : Int32 × Int32 × Int32 × Int32 × Int32 × Int32 × Int32) => (0 ≤ u.1.toInt) ∧ (u.1.toInt ≤ (mi 2).toInt) ∧ (0 ≤ u.2.2.2.2.1.toInt) ∧ (u.2.2.2.2.1.toInt ≤ 6) ∧ (u.2.2.2.2.2.1.toInt = 0) ∧ (u.2.2.2.2.1.toInt = 5) ∧ (CS 5 (mf 1) (mi 2).toInt (.ok 0) u.2.2.2.2.2.1.toInt u.2.2.2.2.2.2.toInt u.1.toInt u.2.1.toInt u.2.2.1.toInt u.2.2.2.1.toInt)) (fun u => QW D cI cJ A ((fun (u : Int32 × Int32 × Int32 × Int32 × Int32 × Int32 × Int32) => (WZ_Tape cI cJ ad mr (upd (upd (upd (upd (upd (upd (upd mi 4 u.1) 7 u.2.1) 5 u.2.2.1) 6 u.2.2.2.1) 3 u.2.2.2.2.1) 8 u.2.2.2.2.2.1) 9 u.2.2.2.2.2.2) mf mg)) u)) A) (by decide) (Nat.le_of_ble_eq_true rfl) ?_
  intro p e s m below meth c A ls E hr hlk hnm hX hw1 hl2
  have hl3 : lv_has ls 2 [(0, .ref (mr 0)), (1, .int z_text)] := hl2
  refine lv_aload_n (pc := 0) E.1 E.2.1 dX8_open_0 rfl (lv_at hl3 0 rfl) ?_
  refine lv_iload_n (pc := 1) E.1 E.2.1 dX8_open_1 rfl (lv_at hl3 1 rfl) ?_
  refine cq_tq (pc := 2) (ws' := (WZ_Tape cI cJ ad mr mi mf mg)) hw1 [] [0, 1] [0, 1] rfl rfl (by decide) (by decide) rfl (by decide) (rn_S (As := [.int z_text]) (rest := [.ref (mr 0)]) E hw1 (t_wordsOf4W l D cI cJ _ (ixf [] mr) (ixf [] mi) (ixf [] mf) (ixf [] mg) z_text ad av tf (by show z_text.toInt = 4; omega)) (gdS q_714 q_715 q_160 q_716) hdV_X8_wordsOf ⟨rfl, rfl⟩ ⟨(Nat.le_of_ble_eq_true rfl), (Nat.le_of_ble_eq_true rfl)⟩ ⟨(Nat.le_of_ble_eq_true rfl), (Nat.le_of_ble_eq_true rfl)⟩ xT8_b (xT8_at hX hw1.2.2.1 (va_free hw1.2.1 hw1.2.2.1 hw1.2.2.2 [] rfl)) [] rfl (by decide) rfl hl3.1 rfl (Nat.le_of_ble_eq_true rfl) dX8_open_2) (fun u_4 H1 locs hp hw5 => ?_)
  generalize H1 = H at hw5 ⊢
  have hw6 : WD D A s.heap (WZ_Tape cI cJ ad mr mi mf mg) H locs := hw5
  have hbu_4 : 5 ≤ u_4.toInt ∧ u_4.toInt ≤ 5 := hp
  refine x_put (pc := 5) (T := TX8) (N := 9) (ci := 8) (ws' := (WZ_Tape cI cJ ad mr (upd mi 3 u_4) mf mg)) E hw6 inX8 tyX8_ok nmX8 0 2 q_540 rfl rfl (by decide) rfl rfl rfl rfl (Nat.le_of_ble_eq_true rfl) rfl dX8_open_5 (fun H locs hw7 => ?_)
  refine lv_aload_n (pc := 8) E.1 E.2.1 dX8_open_8 rfl (lv_at hl3 0 rfl) ?_
  refine lv_iconst (pc := 9) (v := 0) E.1 E.2.1 dX8_open_9 (by decide +kernel) ?_
  refine x_put (pc := 10) (T := TX8) (N := 9) (ci := 8) (ws' := (WZ_Tape cI cJ ad mr (upd (upd mi 3 u_4) 8 0) mf mg)) E hw7 inX8 tyX8_ok nmX8 0 7 q_550 rfl rfl (by decide) rfl rfl rfl rfl (Nat.le_of_ble_eq_true rfl) rfl dX8_open_10 (fun H locs hw8 => ?_)
  refine lv_aload_n (pc := 13) E.1 E.2.1 dX8_open_13 rfl (lv_at hl3 0 rfl) ?_
  refine lv_iconst (pc := 14) (v := (-1)) E.1 E.2.1 dX8_open_14 (by decide +kernel) ?_
  refine x_put (pc := 15) (T := TX8) (N := 9) (ci := 8) (ws' := (WZ_Tape cI cJ ad mr (upd (upd (upd mi 3 u_4) 8 0) 9 (-1)) mf mg)) E hw8 inX8 tyX8_ok nmX8 0 8 q_556 rfl rfl (by decide) rfl rfl rfl rfl (Nat.le_of_ble_eq_true rfl) rfl dX8_open_15 (fun H locs hw9 => ?_)
  refine lv_aload_n (pc := 18) E.1 E.2.1 dX8_open_18 rfl (lv_at hl3 0 rfl) ?_
  refine lv_iconst (pc := 19) (v := 0) E.1 E.2.1 dX8_open_19 (by decide +kernel) ?_
  refine x_put (pc := 20) (T := TX8) (N := 9) (ci := 8) (ws' := (WZ_Tape cI cJ ad mr (upd (upd (upd (upd mi 3 u_4) 4 0) 8 0) 9 (-1)) mf mg)) E hw9 inX8 tyX8_ok nmX8 0 3 q_541 rfl rfl (by decide) rfl rfl rfl rfl (Nat.le_of_ble_eq_true rfl) rfl dX8_open_20 (fun H locs hw10 => ?_)
  refine lv_aload_n (pc := 23) E.1 E.2.1 dX8_open_23 rfl (lv_at hl3 0 rfl) ?_
  refine cq_v (pc := 24) (ws' := (fun (u : Int32 × Int32 × Int32 × Int32) => (WZ_Tape cI cJ ad mr (upd (upd (upd (upd (upd (upd (upd mi 3 u_4) 4 u.1) 5 u.2.2.1) 6 u.2.2.2) 7 u.2.1) 8 0) 9 (-1)) mf mg))) hw10 [0, 1] [] [0, 1] rfl rfl (by decide) (by decide) (fun _ => rfl) (by decide) (rn_V (As := []) (rest := []) E hw10 (t_stepW l D cI cJ _ (ixf [0, 1, 2, 3, 4, 5, 6, 7, 8, 9] mr) (ixf [0, 1, 2, 3, 4, 5, 6, 7, 8, 9] (upd (upd (upd (upd mi 3 u_4) 4 0) 8 0) 9 (-1))) (ixf [0, 1, 2, 3, 4, 5, 6, 7, 8, 9] mf) (ixf [0, 1, 2, 3, 4, 5, 6, 7, 8, 9] mg) ad av tf (by show 0 ≤ (mi 2).toInt ∧ (mi 2).toInt ≤ 400; omega) (by show 0 ≤ (0 : Int32).toInt; have k_0 : (0 : Int32).toInt = 0 := (by decide +kernel); omega) (by show (0 : Int32).toInt ≤ (mi 2).toInt; have k_0 : (0 : Int32).toInt = 0 := (by decide +kernel); omega) (by show 0 ≤ u_4.toInt ∧ u_4.toInt ≤ 6; omega) a_signs) (gdV q_722 q_723 q_724 q_160 q_725) hdV_X8_step ⟨rfl, rfl⟩ ⟨(Nat.le_of_ble_eq_true rfl), (Nat.le_of_ble_eq_true rfl)⟩ ⟨(Nat.le_of_ble_eq_true rfl), (Nat.le_of_ble_eq_true rfl)⟩ xT8_b (xT8_at hX hw10.2.2.1 (va_free hw10.2.1 hw10.2.2.1 hw10.2.2.2 [0, 1] rfl)) 0 8 rfl rfl rfl [0, 1] rfl (by decide) rfl hl3.1 rfl (Nat.le_of_ble_eq_true rfl) dX8_open_24) (fun u_11 H1 locs hp hw13 => ?_)
  obtain ⟨nat_14, nplace_15, nkind_16, nvalue_17⟩ := u_11
  generalize H1 = H at hw13 ⊢
  have hw18 : WD D A s.heap (WZ_Tape cI cJ ad mr (upd (upd (upd (upd (upd (upd (upd mi 3 u_4) 4 nat_14) 5 nkind_16) 6 nvalue_17) 7 nplace_15) 8 0) 9 (-1)) mf mg) H locs := hw13
  obtain ⟨hp_19, hp_20, hp_21⟩ := hp
  have hp_19 : 0 ≤ nat_14.toInt := hp_19
  have hp_20 : nat_14.toInt ≤ (mi 2).toInt := hp_20
  have hp_21 : (((0 : Int32).toInt ≠ 0 → nplace_15.toInt = (mi 7).toInt ∧ nat_14.toInt = (0 : Int32).toInt ∧ nkind_16.toInt = (mi 5).toInt ∧ nvalue_17.toInt = (mi 6).toInt) ∧ ((0 : Int32).toInt = 0 → TKS (ti u_4) (mf 1) (mi 2).toInt (0 : Int32).toInt nplace_15.toInt nat_14.toInt nkind_16.toInt nvalue_17.toInt)) := hp_21
  exact em_v (w1 := (fun (u : Int32 × Int32 × Int32 × Int32 × Int32 × Int32 × Int32) => (WZ_Tape cI cJ ad mr (upd (upd (upd (upd (upd (upd (upd mi 4 u.1) 7 u.2.1) 5 u.2.2.1) 6 u.2.2.2.1) 3 u.2.2.2.2.1) 8 u.2.2.2.2.2.1) 9 u.2.2.2.2.2.2) mf mg))) E hr hlk (nat_14, nplace_15, nkind_16, nvalue_17, u_4, 0, (-1)) hw18 ⟨(by show 0 ≤ nat_14.toInt; have k_0 : (0 : Int32).toInt = 0 := (by decide +kernel); have k_1 : ((-1) : Int32).toInt = -1 := (by decide +kernel); omega), (by show nat_14.toInt ≤ (mi 2).toInt; have k_0 : (0 : Int32).toInt = 0 := (by decide +kernel); have k_1 : ((-1) : Int32).toInt = -1 := (by decide +kernel); omega), (by show 0 ≤ u_4.toInt; have k_0 : (0 : Int32).toInt = 0 := (by decide +kernel); have k_1 : ((-1) : Int32).toInt = -1 := (by decide +kernel); omega), (by show u_4.toInt ≤ 6; have k_0 : (0 : Int32).toInt = 0 := (by decide +kernel); have k_1 : ((-1) : Int32).toInt = -1 := (by decide +kernel); omega), (by show (0 : Int32).toInt = 0; have k_0 : (0 : Int32).toInt = 0 := (by decide +kernel); have k_1 : ((-1) : Int32).toInt = -1 := (by decide +kernel); omega), (by show u_4.toInt = 5; have k_0 : (0 : Int32).toInt = 0 := (by decide +kernel); have k_1 : ((-1) : Int32).toInt = -1 := (by decide +kernel); omega), (show CS 5 (mf 1) (mi 2).toInt (.ok 0) (0 : Int32).toInt ((-1) : Int32).toInt nat_14.toInt nplace_15.toInt nkind_16.toInt nvalue_17.toInt from (CS_open (by first | rfl | omega | decide +kernel) (by first | rfl | decide +kernel) (by have q := hp_21.2; rw [ti_of (k := 5) (by omega)] at q; exact q)))⟩ (Nat.le_of_ble_eq_true rfl) (Nat.le_of_ble_eq_true rfl) dX8_open_27

