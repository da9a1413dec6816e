set_option maxHeartbeats 4000000 in
set_option maxRecDepth 100000 in
theorem t_indexOfLW (l : Launch) (D : va_G) (cI cJ : ClassId) (sz : Nat) (mr : Nat → Nat) (mi : Nat → Int32) (mf : Nat → Nat → Int32) (mg : Nat → Nat → Int64) (z_ch : Int32) (z_to : Int32) (ad av : Nat → Nat) (tf : Value) (i : Nat) (hi : i < 7) (h0 : 0 ≤ z_ch.toInt ∧ z_ch.toInt ≤ 255) (h1 : z_to.toInt = (sLen.getD i 0 : Int)) (h2 : 0 ≤ z_to.toInt) (h3 : z_to.toInt ≤ 75) : Met l yJ1_indexOf_4cfef (Cond.code yJ1_indexOf_4cfef cJ1_indexOf_4cfef 4 (some .int) :: GW) ({ frames := 2, cells := 0, slots := 0, locals := 65 } : Room) (va_Pc [.ref (av i), .int z_ch, .int 0, .int z_to] (PW D cI cJ sz (WZ_Es cI cJ mr mi mf mg) (xS ad av tf (va_A (WZ_Es cI cJ mr mi mf mg) sz)))) (va_Qi (fun (r : Int32) (u : Unit) => ((0 ≤ (r : Int32).toInt ↔ SIX i (z_ch).toInt 0 (z_to).toInt))) (fun u => QW D cI cJ (va_A (WZ_Es cI cJ mr mi mf mg) sz) ((fun (u : Unit) => (WZ_Es cI cJ mr mi mf mg)) u)) (va_A (WZ_Es cI cJ mr mi mf mg) sz)) 0 0 (va_A (WZ_Es cI cJ mr mi mf mg) sz) := by
  refine mk_metA (X := fun A => xS ad av tf A) (y := yJ1_indexOf_4cfef) (bytes := cJ1_indexOf_4cfef) (maxL := 4) (avs := [.ref (av i), .int z_ch, .int 0, .int z_to]) (WS := (WZ_Es cI cJ mr mi mf mg)) (Qf := fun A => va_Qi (fun (r : Int32) (u : Unit) => ((0 ≤ (r : Int32).toInt ↔ SIX i (z_ch).toInt 0 (z_to).toInt))) (fun u => QW D cI cJ A ((fun (u : Unit) => (WZ_Es cI cJ mr mi mf mg)) u)) A) (by decide) (Nat.le_of_ble_eq_true rfl) ?_
  intro p e s m below meth c A ls E hr hlk hnm hX hw1 hl2
  have hl3 : lv_has ls 4 [(0, .ref (av i)), (1, .int z_ch), (2, .int 0), (3, .int z_to)] := hl2
  refine lv_iload_n (pc := 0) E.1 E.2.1 dJ1_indexOf_4cfef_0 rfl (lv_at hl3 1 rfl) ?_
  refine cq_i (pc := 1) (ws' := (fun (u : Unit) => (WZ_Es cI cJ mr mi mf mg))) hw1 [] [] [] rfl rfl (by decide) (by decide) (fun _ => rfl) (by decide) (rn_S (As := [.int z_ch]) (rest := []) E hw1 (t_canEncodeW l D cI cJ _ (ixf [] mr) (ixf [] mi) (ixf [] mf) (ixf [] mg) z_ch (by show 0 ≤ z_ch.toInt ∧ z_ch.toInt ≤ 255; omega)) (gdS q_801 q_802 q_164 q_803) hdV_J1_canEncode_9a6ad ⟨rfl, rfl⟩ ⟨(Nat.le_of_ble_eq_true rfl), (Nat.le_of_ble_eq_true rfl)⟩ ⟨(Nat.le_of_ble_eq_true rfl), (Nat.le_of_ble_eq_true rfl)⟩ xT_b xT_at [] rfl (by decide) rfl hl3.1 rfl (Nat.le_of_ble_eq_true rfl) dJ1_indexOf_4cfef_1) (fun r_5 u_4 H1 locs hp hw6 => ?_)
  generalize H1 = H at hw6 ⊢
  have hw7 : WD D A s.heap (WZ_Es cI cJ mr mi mf mg) H locs := hw6
  have hp_8 := hp
  rcases hp_8 with rfl
  · skip
    refine lv_if_ne (pc := 4) (tgt := 9) E.1 E.2.1 dJ1_indexOf_4cfef_4 (by decide) (fun _ => ?_) (fun c_9 => absurd c_9 (mneE (a := 1) (b := 0) (by decide +kernel) (by decide +kernel) (by omega)))
    refine lv_iload_n (pc := 9) E.1 E.2.1 dJ1_indexOf_4cfef_9 rfl (lv_at hl3 2 rfl) ?_
    refine lv_iconst (pc := 10) (v := 0) E.1 E.2.1 dJ1_indexOf_4cfef_10 (by decide +kernel) ?_
    refine x_max (pc := 11) E hl3.1 q_804 q_805 q_167 q_806 (Nat.le_of_ble_eq_true rfl) (Nat.le_of_ble_eq_true rfl) (Nat.le_of_ble_eq_true rfl) (Nat.le_of_ble_eq_true rfl) dJ1_indexOf_4cfef_11 (fun v_10 hv_10 => ?_)
    rw [show (0 : Int32).toInt = 0 from by decide +kernel] at hv_10
    have hv_10a : 0 ≤ v_10.toInt ∧ 0 ≤ v_10.toInt := by omega
    have hv_10b : v_10.toInt ≤ 0 := by omega
    have hv_10c : v_10.toInt = 0 := by omega
    clear hv_10
    refine lv_istore_n (pc := 14) (lv' := [(2, .int v_10), (0, .ref (av i)), (1, .int z_ch), (3, .int z_to)]) E.1 E.2.1 dJ1_indexOf_4cfef_14 rfl hl3 (by decide) rfl (fun ls hl11 => ?_)
    refine lv_iload_n (pc := 15) E.1 E.2.1 dJ1_indexOf_4cfef_15 rfl (lv_at hl11 3 rfl) ?_
    refine lv_aload_n (pc := 16) E.1 E.2.1 dJ1_indexOf_4cfef_16 rfl (lv_at hl11 1 rfl) ?_
    obtain ⟨v_12, ev_12, hv_12, hv_12b⟩ := s_len hi
    refine x_tblen (pc := 17) E hw7 (hX.1.1 i hi).2.2.2 ev_12 dJ1_indexOf_4cfef_17 ?_
    refine x_min (pc := 18) E hl11.1 q_807 q_808 q_167 q_809 (Nat.le_of_ble_eq_true rfl) (Nat.le_of_ble_eq_true rfl) (Nat.le_of_ble_eq_true rfl) (Nat.le_of_ble_eq_true rfl) dJ1_indexOf_4cfef_18 (fun v_13 hv_13 => ?_)
    have hv_13a : v_13.toInt ≤ z_to.toInt ∧ v_13.toInt ≤ v_12.toInt := by omega
    have hv_13b : 0 ≤ v_13.toInt := by omega
    have hv_13c : v_13.toInt = z_to.toInt := by omega
    clear hv_13
    refine lv_istore_n (pc := 21) (lv' := [(3, .int v_13), (2, .int v_10), (0, .ref (av i)), (1, .int z_ch)]) E.1 E.2.1 dJ1_indexOf_4cfef_21 rfl hl11 (by decide) rfl (fun ls hl14 => ?_)
    refine lv_iload_n (pc := 22) E.1 E.2.1 dJ1_indexOf_4cfef_22 rfl (lv_at hl14 1 rfl) ?_
    refine lv_iload_n (pc := 23) E.1 E.2.1 dJ1_indexOf_4cfef_23 rfl (lv_at hl14 0 rfl) ?_
    refine lv_icmp_lt (pc := 24) (tgt := 29) E.1 E.2.1 dJ1_indexOf_4cfef_24 (by decide) (fun c_15 => ?_) (fun c_15 => ?_)
    · skip
      have hc_15 := ltE (a := v_10.toInt) (b := v_13.toInt) rfl rfl c_15
      refine lv_aload_n (pc := 29) E.1 E.2.1 dJ1_indexOf_4cfef_29 rfl (lv_at hl14 2 rfl) ?_
      refine lv_iload_n (pc := 30) E.1 E.2.1 dJ1_indexOf_4cfef_30 rfl (lv_at hl14 3 rfl) ?_
      refine lv_iload_n (pc := 31) E.1 E.2.1 dJ1_indexOf_4cfef_31 rfl (lv_at hl14 1 rfl) ?_
      refine lv_iload_n (pc := 32) E.1 E.2.1 dJ1_indexOf_4cfef_32 rfl (lv_at hl14 0 rfl) ?_
      refine cq_i (pc := 33) (ws' := (fun (u : Unit) => (WZ_Es cI cJ mr mi mf mg))) hw7 [] [] [] rfl rfl (by decide) (by decide) (fun _ => rfl) (by decide) (rn_S (As := [.ref (av i), .int z_ch, .int v_10, .int v_13]) (rest := []) E hw7 (t_indexOfCharW l D cI cJ _ (ixf [] mr) (ixf [] mi) (ixf [] mf) (ixf [] mg) z_ch v_10 v_13 ad av tf i hi (by show 0 ≤ z_ch.toInt ∧ z_ch.toInt ≤ 255; omega) (by show 0 ≤ v_10.toInt; omega) (by show v_10.toInt ≤ v_13.toInt; omega) (by show v_13.toInt ≤ (sLen.getD i 0 : Int); omega) (by show v_13.toInt ≤ 75; omega)) (gdS q_810 q_811 q_164 q_812) hdV_J1_indexOfChar_4cfef ⟨rfl, rfl⟩ ⟨(Nat.le_of_ble_eq_true rfl), (Nat.le_of_ble_eq_true rfl)⟩ ⟨(Nat.le_of_ble_eq_true rfl), (Nat.le_of_ble_eq_true rfl)⟩ xS_b (xS_at hX hw7.2.2.1 (va_free hw7.2.1 hw7.2.2.1 hw7.2.2.2 [] rfl)) [] rfl (by decide) rfl hl14.1 rfl (Nat.le_of_ble_eq_true rfl) dJ1_indexOf_4cfef_33) (fun r_17 u_16 H1 locs hp hw18 => ?_)
      generalize H1 = H at hw18 ⊢
      have hw19 : WD D A s.heap (WZ_Es cI cJ mr mi mf mg) H locs := hw18
      have hp_20 := hp
      have hp_20 : (0 ≤ (r_17 : Int32).toInt ↔ SIX i (z_ch).toInt (v_10).toInt (v_13).toInt) := hp_20
      exact em_i (w1 := (fun (u : Unit) => (WZ_Es cI cJ mr mi mf mg))) E hr hlk () hw19 (show (0 ≤ (r_17 : Int32).toInt ↔ SIX i (z_ch).toInt 0 (z_to).toInt) from (by have q := hp_20; rw [show v_10.toInt = 0 from by omega, show v_13.toInt = z_to.toInt from by omega] at q; exact q)) (Nat.le_of_ble_eq_true rfl) (Nat.le_of_ble_eq_true rfl) dJ1_indexOf_4cfef_36
    · skip
      have hc_15 := nltE (a := v_10.toInt) (b := v_13.toInt) rfl rfl c_15
      refine lv_iconst (pc := 27) (v := (-1)) E.1 E.2.1 dJ1_indexOf_4cfef_27 (by decide +kernel) ?_
      exact em_i (w1 := (fun (u : Unit) => (WZ_Es cI cJ mr mi mf mg))) E hr hlk () hw7 (show (0 ≤ ((-1) : Int32).toInt ↔ SIX i (z_ch).toInt 0 (z_to).toInt) from ⟨fun h => absurd h (by decide +kernel), fun ⟨j, h1, h2, h3⟩ => absurd h2 (by omega)⟩) (Nat.le_of_ble_eq_true rfl) (Nat.le_of_ble_eq_true rfl) dJ1_indexOf_4cfef_28

set_option maxHeartbeats 4000000 in
set_option maxRecDepth 100000 in
theorem t_indexOf2W (l : Launch) (D : va_G) (cI cJ : ClassId) (sz : Nat) (mr : Nat → Nat) (mi : Nat → Int32) (mf : Nat → Nat → Int32) (mg : Nat → Nat → Int64) (z_ch : Int32) (ad av : Nat → Nat) (tf : Value) (i : Nat) (hi : i < 7) (h0 : 0 ≤ z_ch.toInt ∧ z_ch.toInt ≤ 255) : Met l yJ0_indexOf_7cf53 (Cond.code yJ0_indexOf_7cf53 cJ0_indexOf_7cf53 3 (some .int) :: GW) ({ frames := 3, cells := 0, slots := 0, locals := 88 } : Room) (va_Pc [.ref (ad i), .int z_ch, .int 0] (PW D cI cJ sz (WZ_Es cI cJ mr mi mf mg) (xS ad av tf (va_A (WZ_Es cI cJ mr mi mf mg) sz)))) (va_Qi (fun (r : Int32) (u : Unit) => ((0 ≤ (r : Int32).toInt ↔ SIX i (z_ch).toInt 0 (sLen.getD i 0 : Int)))) (fun u => QW D cI cJ (va_A (WZ_Es cI cJ mr mi mf mg) sz) ((fun (u : Unit) => (WZ_Es cI cJ mr mi mf mg)) u)) (va_A (WZ_Es cI cJ mr mi mf mg) sz)) 0 0 (va_A (WZ_Es cI cJ mr mi mf mg) sz) := by
  refine mk_metA (X := fun A => xS ad av tf A) (y := yJ0_indexOf_7cf53) (bytes := cJ0_indexOf_7cf53) (maxL := 3) (avs := [.ref (ad i), .int z_ch, .int 0]) (WS := (WZ_Es cI cJ mr mi mf mg)) (Qf := fun A => va_Qi (fun (r : Int32) (u : Unit) => ((0 ≤ (r : Int32).toInt ↔ SIX i (z_ch).toInt 0 (sLen.getD i 0 : Int)))) (fun u => QW D cI cJ A ((fun (u : Unit) => (WZ_Es cI cJ mr mi mf mg)) u)) A) (by decide) (Nat.le_of_ble_eq_true rfl) ?_
  intro p e s m below meth c A ls E hr hlk hnm hX hw1 hl2
  have hl3 : lv_has ls 3 [(0, .ref (ad i)), (1, .int z_ch), (2, .int 0)] := hl2
  refine lv_aload_n (pc := 0) E.1 E.2.1 dJ0_indexOf_7cf53_0 rfl (lv_at hl3 0 rfl) ?_
  refine cq_i (pc := 1) (ws' := (fun (u : Unit) => (WZ_Es cI cJ mr mi mf mg))) hw1 [] [] [] rfl rfl (by decide) (by decide) (fun _ => rfl) (by decide) (rn_VS (As := []) (rest := []) E hw1 (t_isLatin1 l D cI cJ _ (ixf [] mr) (ixf [] mi) (ixf [] mf) (ixf [] mg) ad av tf i hi) (gdV q_747 q_748 q_749 q_163 q_750) hdV_J0_isLatin1_aae02 ⟨rfl, rfl⟩ ⟨(Nat.le_of_ble_eq_true rfl), (Nat.le_of_ble_eq_true rfl)⟩ ⟨(Nat.le_of_ble_eq_true rfl), (Nat.le_of_ble_eq_true rfl)⟩ xS_b (xS_at hX hw1.2.2.1 (va_free hw1.2.1 hw1.2.2.1 hw1.2.2.2 [] rfl)) hX.1 hi rfl rfl [] rfl (by decide) rfl hl3.1 rfl (Nat.le_of_ble_eq_true rfl) dJ0_indexOf_7cf53_1) (fun r_5 u_4 H1 locs hp hw6 => ?_)
  generalize H1 = H at hw6 ⊢
  have hw7 : WD D A s.heap (WZ_Es cI cJ mr mi mf mg) H locs := hw6
  have hp_8 := hp
  rcases hp_8 with rfl
  · skip
    refine lv_if_eq (pc := 4) (tgt := 23) E.1 E.2.1 dJ0_indexOf_7cf53_4 (by decide) (fun c_9 => absurd c_9 (mneE (a := 1) (b := 0) (by decide +kernel) (by decide +kernel) (by omega))) (fun _ => ?_)
    refine lv_aload_n (pc := 7) E.1 E.2.1 dJ0_indexOf_7cf53_7 rfl (lv_at hl3 0 rfl) ?_
    refine x_sf (pc := 8) E hw7 (hX.1.1 i hi).2.2.1 q_2145 rfl dJ0_indexOf_7cf53_8 ?_
    refine lv_iload_n (pc := 11) E.1 E.2.1 dJ0_indexOf_7cf53_11 rfl (lv_at hl3 1 rfl) ?_
    refine lv_iload_n (pc := 12) E.1 E.2.1 dJ0_indexOf_7cf53_12 rfl (lv_at hl3 2 rfl) ?_
    refine lv_aload_n (pc := 13) E.1 E.2.1 dJ0_indexOf_7cf53_13 rfl (lv_at hl3 0 rfl) ?_
    refine cq_i (pc := 14) (ws' := (fun (u : Unit) => (WZ_Es cI cJ mr mi mf mg))) hw7 [] [] [] rfl rfl (by decide) (by decide) (fun _ => rfl) (by decide) (rn_VS (As := []) (rest := [.int 0, .int z_ch, .ref (av i)]) E hw7 (t_length l D cI cJ _ (ixf [] mr) (ixf [] mi) (ixf [] mf) (ixf [] mg) ad av tf i hi) (gdV q_797 q_734 q_735 q_163 q_736) hdV_J0_length_8abf5 ⟨rfl, rfl⟩ ⟨(Nat.le_of_ble_eq_true rfl), (Nat.le_of_ble_eq_true rfl)⟩ ⟨(Nat.le_of_ble_eq_true rfl), (Nat.le_of_ble_eq_true rfl)⟩ xS_b (xS_at hX hw7.2.2.1 (va_free hw7.2.1 hw7.2.2.1 hw7.2.2.2 [] rfl)) hX.1 hi rfl rfl [] rfl (by decide) rfl hl3.1 rfl (Nat.le_of_ble_eq_true rfl) dJ0_indexOf_7cf53_14) (fun r_11 u_10 H1 locs hp hw12 => ?_)
    generalize H1 = H at hw12 ⊢
    have hw13 : WD D A s.heap (WZ_Es cI cJ mr mi mf mg) H locs := hw12
    obtain ⟨hp_14, hp_15, hp_16⟩ := hp
    have hp_14 : r_11.toInt = (sLen.getD i 0 : Int) := hp_14
    have hp_15 : 0 ≤ r_11.toInt := hp_15
    have hp_16 : r_11.toInt ≤ 75 := hp_16
    refine cq_i (pc := 17) (ws' := (fun (u : Unit) => (WZ_Es cI cJ mr mi mf mg))) hw13 [] [] [] rfl rfl (by decide) (by decide) (fun _ => rfl) (by decide) (rn_S2 (As := [.ref (av i), .int z_ch, .int 0, .int r_11]) (rest := []) E hw13 (t_indexOfLW l D cI cJ _ (ixf [] mr) (ixf [] mi) (ixf [] mf) (ixf [] mg) z_ch r_11 ad av tf i hi (by show 0 ≤ z_ch.toInt ∧ z_ch.toInt ≤ 255; omega) (by show r_11.toInt = (sLen.getD i 0 : Int); omega) (by show 0 ≤ r_11.toInt; omega) (by show r_11.toInt ≤ 75; omega)) q_800 q_164 q_798 q_799 hdS_J1_indexOf_4cfef ⟨rfl, rfl⟩ ⟨(Nat.le_of_ble_eq_true rfl), (Nat.le_of_ble_eq_true rfl)⟩ ⟨(Nat.le_of_ble_eq_true rfl), (Nat.le_of_ble_eq_true rfl)⟩ xS_b (xS_at hX hw13.2.2.1 (va_free hw13.2.1 hw13.2.2.1 hw13.2.2.2 [] rfl)) [] rfl (by decide) rfl hl3.1 rfl (Nat.le_of_ble_eq_true rfl) dJ0_indexOf_7cf53_17) (fun r_18 u_17 H1 locs hp hw19 => ?_)
    generalize H1 = H at hw19 ⊢
    have hw20 : WD D A s.heap (WZ_Es cI cJ mr mi mf mg) H locs := hw19
    have hp_21 := hp
    have hp_21 : (0 ≤ (r_18 : Int32).toInt ↔ SIX i (z_ch).toInt 0 (r_11).toInt) := hp_21
    refine lv_goto (pc := 20) (tgt := 36) E.1 E.2.1 dJ0_indexOf_7cf53_20 (by decide) ?_
    exact em_i (w1 := (fun (u : Unit) => (WZ_Es cI cJ mr mi mf mg))) E hr hlk () hw20 (show (0 ≤ (r_18 : Int32).toInt ↔ SIX i (z_ch).toInt 0 (sLen.getD i 0 : Int)) from (by have q := hp_21; rw [show r_11.toInt = (sLen.getD i 0 : Int) from by omega] at q; exact q)) (Nat.le_of_ble_eq_true rfl) (Nat.le_of_ble_eq_true rfl) dJ0_indexOf_7cf53_36

set_option maxHeartbeats 4000000 in
set_option maxRecDepth 100000 in
theorem t_indexOfW (l : Launch) (D : va_G) (cI cJ : ClassId) (sz : Nat) (mr : Nat → Nat) (mi : Nat → Int32) (mf : Nat → Nat → Int32) (mg : Nat → Nat → Int64) (z_ch : Int32) (ad av : Nat → Nat) (tf : Value) (i : Nat) (hi : i < 7) (h0 : 0 ≤ z_ch.toInt ∧ z_ch.toInt ≤ 255) : Met l yJ0_indexOf_0f7a4 (Cond.code yJ0_indexOf_0f7a4 cJ0_indexOf_0f7a4 2 (some .int) :: GW) ({ frames := 4, cells := 0, slots := 0, locals := 110 } : Room) (va_Pc [.ref (ad i), .int z_ch] (PW D cI cJ sz (WZ_Es cI cJ mr mi mf mg) (xS ad av tf (va_A (WZ_Es cI cJ mr mi mf mg) sz)))) (va_Qi (fun (r : Int32) (u : Unit) => ((0 ≤ (r : Int32).toInt ↔ SIX i (z_ch).toInt 0 (sLen.getD i 0 : Int)))) (fun u => QW D cI cJ (va_A (WZ_Es cI cJ mr mi mf mg) sz) ((fun (u : Unit) => (WZ_Es cI cJ mr mi mf mg)) u)) (va_A (WZ_Es cI cJ mr mi mf mg) sz)) 0 0 (va_A (WZ_Es cI cJ mr mi mf mg) sz) := by
  refine mk_metA (X := fun A => xS ad av tf A) (y := yJ0_indexOf_0f7a4) (bytes := cJ0_indexOf_0f7a4) (maxL := 2) (avs := [.ref (ad i), .int z_ch]) (WS := (WZ_Es cI cJ mr mi mf mg)) (Qf := fun A => va_Qi (fun (r : Int32) (u : Unit) => ((0 ≤ (r : Int32).toInt ↔ SIX i (z_ch).toInt 0 (sLen.getD i 0 : Int)))) (fun u => QW D cI cJ A ((fun (u : Unit) => (WZ_Es cI cJ mr mi mf mg)) u)) A) (by decide) (Nat.le_of_ble_eq_true rfl) ?_
  intro p e s m below meth c A ls E hr hlk hnm hX hw1 hl2
  have hl3 : lv_has ls 2 [(0, .ref (ad i)), (1, .int z_ch)] := hl2
  refine lv_aload_n (pc := 0) E.1 E.2.1 dJ0_indexOf_0f7a4_0 rfl (lv_at hl3 0 rfl) ?_
  refine lv_iload_n (pc := 1) E.1 E.2.1 dJ0_indexOf_0f7a4_1 rfl (lv_at hl3 1 rfl) ?_
  refine lv_iconst (pc := 2) (v := 0) E.1 E.2.1 dJ0_indexOf_0f7a4_2 (by decide +kernel) ?_
  refine cq_i (pc := 3) (ws' := (fun (u : Unit) => (WZ_Es cI cJ mr mi mf mg))) hw1 [] [] [] rfl rfl (by decide) (by decide) (fun _ => rfl) (by decide) (rn_VS (As := [.int z_ch, .int 0]) (rest := []) E hw1 (t_indexOf2W l D cI cJ _ (ixf [] mr) (ixf [] mi) (ixf [] mf) (ixf [] mg) z_ch ad av tf i hi (by show 0 ≤ z_ch.toInt ∧ z_ch.toInt ≤ 255; omega)) (gdV q_793 q_794 q_795 q_163 q_796) hdV_J0_indexOf_7cf53 ⟨rfl, rfl⟩ ⟨(Nat.le_of_ble_eq_true rfl), (Nat.le_of_ble_eq_true rfl)⟩ ⟨(Nat.le_of_ble_eq_true rfl), (Nat.le_of_ble_eq_true rfl)⟩ xS_b (xS_at hX hw1.2.2.1 (va_free hw1.2.1 hw1.2.2.1 hw1.2.2.2 [] rfl)) hX.1 hi rfl rfl [] rfl (by decide) rfl hl3.1 rfl (Nat.le_of_ble_eq_true rfl) dJ0_indexOf_0f7a4_3) (fun r_5 u_4 H1 locs hp hw6 => ?_)
  generalize H1 = H at hw6 ⊢
  have hw7 : WD D A s.heap (WZ_Es cI cJ mr mi mf mg) H locs := hw6
  have hp_8 := hp
  have hp_8 : (0 ≤ (r_5 : Int32).toInt ↔ SIX i (z_ch).toInt 0 (sLen.getD i 0 : Int)) := hp_8
  exact em_i (w1 := (fun (u : Unit) => (WZ_Es cI cJ mr mi mf mg))) E hr hlk () hw7 (show (0 ≤ (r_5 : Int32).toInt ↔ SIX i (z_ch).toInt 0 (sLen.getD i 0 : Int)) from hp_8) (Nat.le_of_ble_eq_true rfl) (Nat.le_of_ble_eq_true rfl) dJ0_indexOf_0f7a4_6

set_option maxHeartbeats 4000000 in
set_option maxRecDepth 100000 in
theorem t_readNumberW (l : Launch) (D : va_G) (cI cJ : ClassId) (sz : Nat) (mr : Nat → Nat) (mi : Nat → Int32) (mf : Nat → Nat → Int32) (mg : Nat → Nat → Int64)  (ad : Nat → Nat) (h0 : 0 ≤ (mi 2).toInt ∧ (mi 2).toInt ≤ 400) (h1 : 0 ≤ (mi 4).toInt) (h2 : (mi 4).toInt ≤ (mi 2).toInt) (h3 : 0 ≤ (mi 7).toInt) (h4 : (mi 7).toInt = (mi 4).toInt) (a_signs : b255 (mf 1)) : Met l yX8_readNumber (Cond.code yX8_readNumber cX8_readNumber 1 none :: GW) ({ frames := 2, cells := 0, slots := 0, locals := 60 } : Room) (va_Pc [.ref (mr 0)] (PW D cI cJ sz (WZ_Tape cI cJ ad mr mi mf mg) xT)) (va_Qv (fun (u : Int32 × Int32 × Int32) => (0 ≤ u.2.1.toInt) ∧ (u.2.1.toInt ≤ (mi 2).toInt) ∧ ((mi 4).toInt ≤ u.2.1.toInt) ∧ (RNF (mf 1) (mi 2).toInt (mi 7).toInt u.2.1.toInt u.2.2.toInt u.1.toInt)) (fun u => QW D cI cJ (va_A (WZ_Tape cI cJ ad mr mi mf mg) sz) ((fun (u : Int32 × Int32 × Int32) => (WZ_Tape cI cJ ad mr (upd (upd (upd mi 6 u.1) 4 u.2.1) 5 u.2.2) mf mg)) u)) (va_A (WZ_Tape cI cJ ad mr mi mf mg) sz)) 0 0 (va_A (WZ_Tape cI cJ ad mr mi mf mg) sz) := by
  refine mk_met (y := yX8_readNumber) (bytes := cX8_readNumber) (maxL := 1) (avs := [.ref (mr 0)]) (WS := (WZ_Tape cI cJ ad mr mi mf mg)) (Qf := fun A => va_Qv (fun (u : Int32 × Int32 × Int32) => (0 ≤ u.2.1.toInt) ∧ (u.2.1.toInt ≤ (mi 2).toInt) ∧ ((mi 4).toInt ≤ u.2.1.toInt) ∧ (RNF (mf 1) (mi 2).toInt (mi 7).toInt u.2.1.toInt u.2.2.toInt u.1.toInt)) (fun u => QW D cI cJ A ((fun (u : Int32 × Int32 × Int32) => (WZ_Tape cI cJ ad mr (upd (upd (upd mi 6 u.1) 4 u.2.1) 5 u.2.2) mf mg)) u)) A) (by decide) (Nat.le_of_ble_eq_true rfl) ?_
  intro p e s m below meth c A ls E hr hlk hnm hX hw1 hl2
  have hl3 : lv_has ls 1 [(0, .ref (mr 0))] := hl2
  refine lv_aload_n (pc := 0) E.1 E.2.1 dX8_readNumber_0 rfl (lv_at hl3 0 rfl) ?_
  refine lv_iconst (pc := 1) (v := 0) E.1 E.2.1 dX8_readNumber_1 (by decide +kernel) ?_
  refine x_put (pc := 2) (T := TX8) (N := 9) (ci := 8) (ws' := (WZ_Tape cI cJ ad mr (upd mi 6 0) mf mg)) E hw1 inX8 tyX8_ok nmX8 0 5 q_548 rfl rfl (by decide) rfl rfl rfl rfl (Nat.le_of_ble_eq_true rfl) rfl dX8_readNumber_2 (fun H locs hw4 => ?_)
  have loop_5 : ∀ (k : Nat) (x_6 : Int32) (x_7 : Int32) (H : Heap) (locs : List Loc) (ls : Array Slot), (0 ≤ x_6.toInt) ∧ (x_6.toInt ≤ (mi 2).toInt) ∧ ((mi 7).toInt ≤ x_6.toInt) ∧ ((mi 4).toInt ≤ x_6.toInt) ∧ (0 ≤ x_7.toInt) ∧ (x_7.toInt ≤ 9999) ∧ (rnI dgtB (mf 1) (mi 2).toInt x_6.toInt = rnI dgtB (mf 1) (mi 2).toInt (mi 7).toInt) ∧ (DVI (mf 1) (mi 7).toInt x_6.toInt x_7.toInt) → (mi 2).toInt - x_6.toInt < (k : Int) → WD D A s.heap (WZ_Tape cI cJ ad mr (upd (upd mi 4 x_6) 6 x_7) mf mg) H locs → lv_has ls 1 [(0, .ref (mr 0))] → W p l e ({ frames := 2, cells := 0, slots := 0, locals := 60 } : Room) s m ([.ref (mr 0)] : List Value).toArray below meth c H locs 0 0 (MQ below (va_Qv (fun (u : Int32 × Int32 × Int32) => (0 ≤ u.2.1.toInt) ∧ (u.2.1.toInt ≤ (mi 2).toInt) ∧ ((mi 4).toInt ≤ u.2.1.toInt) ∧ (RNF (mf 1) (mi 2).toInt (mi 7).toInt u.2.1.toInt u.2.2.toInt u.1.toInt)) (fun u => QW D cI cJ A ((fun (u : Int32 × Int32 × Int32) => (WZ_Tape cI cJ ad mr (upd (upd (upd mi 6 u.1) 4 u.2.1) 5 u.2.2) mf mg)) u)) A) ([.ref (mr 0)] : List Value).toArray s 0 0 A) (F0 m 5 ls []) := by
    intro k
    induction k with
    | zero =>
      intro x_6 x_7 _ _ _ hinv hm
      obtain ⟨hi_7_0, hi_7_1, hi_7_2, hi_7_3, hi_7_4, hi_7_5, hi_7_6, hi_7_7⟩ := hinv
      exact absurd hm (by omega)
    | succ k ih_8 =>
      intro x_6 x_7 H locs ls hinv hm hw9 hl10
      obtain ⟨hi_7_0, hi_7_1, hi_7_2, hi_7_3, hi_7_4, hi_7_5, hi_7_6, hi_7_7⟩ := hinv
      refine lv_aload_n (pc := 5) E.1 E.2.1 dX8_readNumber_5 rfl (lv_at hl10 0 rfl) ?_
      refine x_get (pc := 6) (T := TX8) (N := 9) (ci := 8) (v := .int x_6) E hw9 inX8 0 3 q_541 rfl rfl (by decide) rfl rfl dX8_readNumber_6 ?_
      refine lv_aload_n (pc := 9) E.1 E.2.1 dX8_readNumber_9 rfl (lv_at hl10 0 rfl) ?_
      refine x_get (pc := 10) (T := TX8) (N := 9) (ci := 8) (v := .int (mi 2)) E hw9 inX8 0 1 q_538 rfl rfl (by decide) rfl rfl dX8_readNumber_10 ?_
      refine lv_icmp_ge (pc := 13) (tgt := 81) E.1 E.2.1 dX8_readNumber_13 (by decide) (fun c_11 => ?_) (fun c_11 => ?_)
      · skip
        have hc_11 := leE (a := (mi 2).toInt) (b := x_6.toInt) rfl rfl c_11
        have hen : x_6.toInt = rnI dgtB (mf 1) (mi 2).toInt (mi 7).toInt := rnI_full hi_7_6 (by omega)
        refine lv_aload_n (pc := 81) E.1 E.2.1 dX8_readNumber_81 rfl (lv_at hl10 0 rfl) ?_
        refine lv_aload_n (pc := 82) E.1 E.2.1 dX8_readNumber_82 rfl (lv_at hl10 0 rfl) ?_
        refine x_get (pc := 83) (T := TX8) (N := 9) (ci := 8) (v := .int x_6) E hw9 inX8 0 3 q_541 rfl rfl (by decide) rfl rfl dX8_readNumber_83 ?_
        refine lv_aload_n (pc := 86) E.1 E.2.1 dX8_readNumber_86 rfl (lv_at hl10 0 rfl) ?_
        refine x_get (pc := 87) (T := TX8) (N := 9) (ci := 8) (v := .int (mi 7)) E hw9 inX8 0 6 q_549 rfl rfl (by decide) rfl rfl dX8_readNumber_87 ?_
        refine lv_isub (pc := 90) E.1 E.2.1 dX8_readNumber_90 ?_
        refine lv_topi (fun v_12 ev_12 => ?_)
        have hv_12 : v_12.toInt = x_6.toInt - (mi 7).toInt := by rw [ev_12]; exact subE rfl rfl (by omega)
        refine lv_iconst (pc := 91) (v := 4) E.1 E.2.1 dX8_readNumber_91 (by decide +kernel) ?_
        refine lv_icmp_gt (pc := 92) (tgt := 99) E.1 E.2.1 dX8_readNumber_92 (by decide) (fun c_13 => ?_) (fun c_13 => ?_)
        · skip
          have hc_13 := ltE (a := 4) (b := v_12.toInt) (by decide +kernel) rfl c_13
          refine lv_iconst (pc := 99) (v := 2) E.1 E.2.1 dX8_readNumber_99 (by decide +kernel) ?_
          refine x_put (pc := 100) (T := TX8) (N := 9) (ci := 8) (ws' := (WZ_Tape cI cJ ad mr (upd (upd (upd mi 4 x_6) 5 2) 6 x_7) mf mg)) E hw9 inX8 tyX8_ok nmX8 0 4 q_546 rfl rfl (by decide) rfl rfl rfl rfl (Nat.le_of_ble_eq_true rfl) rfl dX8_readNumber_100 (fun H locs hw14 => ?_)
          exact em_v (w1 := (fun (u : Int32 × Int32 × Int32) => (WZ_Tape cI cJ ad mr (upd (upd (upd mi 6 u.1) 4 u.2.1) 5 u.2.2) mf mg))) E hr hlk (x_7, x_6, 2) hw14 ⟨(by show 0 ≤ x_6.toInt; have k_0 : (2 : Int32).toInt = 2 := (by decide +kernel); omega), (by show x_6.toInt ≤ (mi 2).toInt; have k_0 : (2 : Int32).toInt = 2 := (by decide +kernel); omega), (by show (mi 4).toInt ≤ x_6.toInt; have k_0 : (2 : Int32).toInt = 2 := (by decide +kernel); omega), (show RNF (mf 1) (mi 2).toInt (mi 7).toInt x_6.toInt (2 : Int32).toInt x_7.toInt from ⟨hen, (Or.inr ⟨by omega, by decide +kernel⟩)⟩)⟩ (Nat.le_of_ble_eq_true rfl) (Nat.le_of_ble_eq_true rfl) dX8_readNumber_103
        · skip
          have hc_13 := nltE (a := 4) (b := v_12.toInt) (by decide +kernel) rfl c_13
          refine lv_iconst (pc := 95) (v := 1) E.1 E.2.1 dX8_readNumber_95 (by decide +kernel) ?_
          refine lv_goto (pc := 96) (tgt := 100) E.1 E.2.1 dX8_readNumber_96 (by decide) ?_
          refine x_put (pc := 100) (T := TX8) (N := 9) (ci := 8) (ws' := (WZ_Tape cI cJ ad mr (upd (upd (upd mi 4 x_6) 5 1) 6 x_7) mf mg)) E hw9 inX8 tyX8_ok nmX8 0 4 q_546 rfl rfl (by decide) rfl rfl rfl rfl (Nat.le_of_ble_eq_true rfl) rfl dX8_readNumber_100 (fun H locs hw15 => ?_)
          exact em_v (w1 := (fun (u : Int32 × Int32 × Int32) => (WZ_Tape cI cJ ad mr (upd (upd (upd mi 6 u.1) 4 u.2.1) 5 u.2.2) mf mg))) E hr hlk (x_7, x_6, 1) hw15 ⟨(by show 0 ≤ x_6.toInt; have k_0 : (1 : Int32).toInt = 1 := (by decide +kernel); omega), (by show x_6.toInt ≤ (mi 2).toInt; have k_0 : (1 : Int32).toInt = 1 := (by decide +kernel); omega), (by show (mi 4).toInt ≤ x_6.toInt; have k_0 : (1 : Int32).toInt = 1 := (by decide +kernel); omega), (show RNF (mf 1) (mi 2).toInt (mi 7).toInt x_6.toInt (1 : Int32).toInt x_7.toInt from ⟨hen, (Or.inl ⟨by omega, by decide +kernel, (hi_7_7 (by omega)).1⟩)⟩)⟩ (Nat.le_of_ble_eq_true rfl) (Nat.le_of_ble_eq_true rfl) dX8_readNumber_103
      · skip
        have hc_11 := nleE (a := (mi 2).toInt) (b := x_6.toInt) rfl rfl c_11
        refine lv_aload_n (pc := 16) E.1 E.2.1 dX8_readNumber_16 rfl (lv_at hl10 0 rfl) ?_
        refine x_get (pc := 17) (T := TX8) (N := 9) (ci := 8) (v := .ref (mr 1)) E hw9 inX8 0 0 q_537 rfl rfl (by decide) rfl rfl dX8_readNumber_17 ?_
        refine lv_aload_n (pc := 20) E.1 E.2.1 dX8_readNumber_20 rfl (lv_at hl10 0 rfl) ?_
        refine x_get (pc := 21) (T := TX8) (N := 9) (ci := 8) (v := .int x_6) E hw9 inX8 0 3 q_541 rfl rfl (by decide) rfl rfl dX8_readNumber_21 ?_
        refine x_iald (pc := 24) (f := (mf 1)) E hw9 1 rfl (inbE (a := x_6.toInt) rfl (by omega)) dX8_readNumber_24 ?_
        refine lv_topi (fun v_16 ev_16 => ?_)
        have hbv_16 := allR_at (n := 400) (lo := 0) (hi := 255) a_signs ev_16 (by show 0 ≤ x_6.toInt ∧ _; omega)
        refine cq_i (pc := 25) (ws' := (fun (u : Unit) => (WZ_Tape cI cJ ad mr (upd (upd mi 4 x_6) 6 x_7) mf mg))) hw9 [] [0, 1] [0, 1] rfl rfl (by decide) (by decide) (fun _ => rfl) (by decide) (rn_S (As := [.int v_16]) (rest := []) E hw9 (t_isDigitW l D cI cJ _ (ixf [] mr) (ixf [] (upd (upd mi 4 x_6) 6 x_7)) (ixf [] mf) (ixf [] mg) v_16) (gdS q_781 q_782 q_160 q_783) hdV_X8_isDigit ⟨rfl, rfl⟩ ⟨(Nat.le_of_ble_eq_true rfl), (Nat.le_of_ble_eq_true rfl)⟩ ⟨(Nat.le_of_ble_eq_true rfl), (Nat.le_of_ble_eq_true rfl)⟩ xT_b xT_at [] rfl (by decide) rfl hl10.1 rfl (Nat.le_of_ble_eq_true rfl) dX8_readNumber_25) (fun r_18 u_17 H1 locs hp hw19 => ?_)
        generalize H1 = H at hw19 ⊢
        have hw20 : WD D A s.heap (WZ_Tape cI cJ ad mr (upd (upd mi 4 x_6) 6 x_7) mf mg) H locs := hw19
        have hp_21 := hp
        rcases hp_21 with ⟨rfl, ha_22, ha_23⟩ | ⟨rfl, ha_24⟩ | ⟨rfl, ha_25⟩
        · skip
          have ha_22 : 48 ≤ v_16.toInt := ha_22
          have ha_23 : v_16.toInt ≤ 57 := ha_23
          refine lv_if_eq (pc := 28) (tgt := 81) E.1 E.2.1 dX8_readNumber_28 (by decide) (fun c_26 => absurd c_26 (mneE (a := 1) (b := 0) (by decide +kernel) (by decide +kernel) (by omega))) (fun _ => ?_)
          refine lv_aload_n (pc := 31) E.1 E.2.1 dX8_readNumber_31 rfl (lv_at hl10 0 rfl) ?_
          refine x_get (pc := 32) (T := TX8) (N := 9) (ci := 8) (v := .int x_6) E hw20 inX8 0 3 q_541 rfl rfl (by decide) rfl rfl dX8_readNumber_32 ?_
          refine lv_aload_n (pc := 35) E.1 E.2.1 dX8_readNumber_35 rfl (lv_at hl10 0 rfl) ?_
          refine x_get (pc := 36) (T := TX8) (N := 9) (ci := 8) (v := .int (mi 7)) E hw20 inX8 0 6 q_549 rfl rfl (by decide) rfl rfl dX8_readNumber_36 ?_
          refine lv_isub (pc := 39) E.1 E.2.1 dX8_readNumber_39 ?_
          refine lv_topi (fun v_27 ev_27 => ?_)
          have hv_27 : v_27.toInt = x_6.toInt - (mi 7).toInt := by rw [ev_27]; exact subE rfl rfl (by omega)
          refine lv_iconst (pc := 40) (v := 4) E.1 E.2.1 dX8_readNumber_40 (by decide +kernel) ?_
          refine lv_icmp_ge (pc := 41) (tgt := 68) E.1 E.2.1 dX8_readNumber_41 (by decide) (fun c_28 => ?_) (fun c_28 => ?_)
          · skip
            have hc_28 := leE (a := 4) (b := v_27.toInt) (by decide +kernel) rfl c_28
            refine lv_aload_n (pc := 68) E.1 E.2.1 dX8_readNumber_68 rfl (lv_at hl10 0 rfl) ?_
            refine lv_dup (pc := 69) E.1 E.2.1 dX8_readNumber_69 rfl ?_
            refine x_get (pc := 70) (T := TX8) (N := 9) (ci := 8) (v := .int x_6) E hw20 inX8 0 3 q_541 rfl rfl (by decide) rfl rfl dX8_readNumber_70 ?_
            refine lv_iconst (pc := 73) (v := 1) E.1 E.2.1 dX8_readNumber_73 (by decide +kernel) ?_
            refine lv_iadd (pc := 74) E.1 E.2.1 dX8_readNumber_74 ?_
            refine lv_topi (fun v_29 ev_29 => ?_)
            have hv_29 : v_29.toInt = x_6.toInt + 1 := by rw [ev_29]; exact addE rfl (by decide +kernel) (by omega)
            refine x_put (pc := 75) (T := TX8) (N := 9) (ci := 8) (ws' := (WZ_Tape cI cJ ad mr (upd (upd mi 4 v_29) 6 x_7) mf mg)) E hw20 inX8 tyX8_ok nmX8 0 3 q_541 rfl rfl (by decide) rfl rfl rfl rfl (Nat.le_of_ble_eq_true rfl) rfl dX8_readNumber_75 (fun H locs hw30 => ?_)
            refine lv_goto (pc := 78) (tgt := 5) E.1 E.2.1 dX8_readNumber_78 (by decide) ?_
            exact ih_8 v_29 x_7 _ _ _ ⟨(by show 0 ≤ v_29.toInt; omega), (by show v_29.toInt ≤ (mi 2).toInt; omega), (by show (mi 7).toInt ≤ v_29.toInt; omega), (by show (mi 4).toInt ≤ v_29.toInt; omega), (by show 0 ≤ x_7.toInt; omega), (by show x_7.toInt ≤ 9999; omega), (rnI_step hi_7_6 ev_16 (by omega) (by omega) (dgt_t (by omega)) (m := v_29.toInt) (by omega)), (DVI_no (by omega))⟩ (by omega) hw30 (lv_sub hl10 [0] rfl)
          · skip
            have hc_28 := nleE (a := 4) (b := v_27.toInt) (by decide +kernel) rfl c_28
            have hdb := DVI_b hi_7_7 (by omega) (by omega)
            refine lv_aload_n (pc := 44) E.1 E.2.1 dX8_readNumber_44 rfl (lv_at hl10 0 rfl) ?_
            refine lv_bipush (pc := 45) (v := 10) E.1 E.2.1 dX8_readNumber_45 (by decide +kernel) ?_
            refine lv_aload_n (pc := 47) E.1 E.2.1 dX8_readNumber_47 rfl (lv_at hl10 0 rfl) ?_
            refine x_get (pc := 48) (T := TX8) (N := 9) (ci := 8) (v := .int x_7) E hw20 inX8 0 5 q_548 rfl rfl (by decide) rfl rfl dX8_readNumber_48 ?_
            refine lv_imul (pc := 51) E.1 E.2.1 dX8_readNumber_51 ?_
            refine lv_topi (fun v_31 ev_31 => ?_)
            have hv_31 : v_31.toInt = 10 * x_7.toInt := by rw [ev_31]; exact mulE (by decide +kernel) rfl (by omega)
            refine lv_aload_n (pc := 52) E.1 E.2.1 dX8_readNumber_52 rfl (lv_at hl10 0 rfl) ?_
            refine x_get (pc := 53) (T := TX8) (N := 9) (ci := 8) (v := .ref (mr 1)) E hw20 inX8 0 0 q_537 rfl rfl (by decide) rfl rfl dX8_readNumber_53 ?_
            refine lv_aload_n (pc := 56) E.1 E.2.1 dX8_readNumber_56 rfl (lv_at hl10 0 rfl) ?_
            refine x_get (pc := 57) (T := TX8) (N := 9) (ci := 8) (v := .int x_6) E hw20 inX8 0 3 q_541 rfl rfl (by decide) rfl rfl dX8_readNumber_57 ?_
            refine x_iald (pc := 60) (f := (mf 1)) E hw20 1 rfl (inbE (a := x_6.toInt) rfl (by omega)) dX8_readNumber_60 ?_
            refine lv_topi (fun v_32 ev_32 => ?_)
            have hbv_32 := allR_at (n := 400) (lo := 0) (hi := 255) a_signs ev_32 (by show 0 ≤ x_6.toInt ∧ _; omega)
            have hsv_32 : v_32.toInt = v_16.toInt := by rw [ev_32, ev_16]
            refine lv_iadd (pc := 61) E.1 E.2.1 dX8_readNumber_61 ?_
            refine lv_topi (fun v_33 ev_33 => ?_)
            have hv_33 : v_33.toInt = v_31.toInt + v_32.toInt := by rw [ev_33]; exact addE rfl rfl (by omega)
            refine lv_bipush (pc := 62) (v := 48) E.1 E.2.1 dX8_readNumber_62 (by decide +kernel) ?_
            refine lv_isub (pc := 64) E.1 E.2.1 dX8_readNumber_64 ?_
            refine lv_topi (fun v_34 ev_34 => ?_)
            have hv_34 : v_34.toInt = v_33.toInt - 48 := by rw [ev_34]; exact subE rfl (by decide +kernel) (by omega)
            refine x_put (pc := 65) (T := TX8) (N := 9) (ci := 8) (ws' := (WZ_Tape cI cJ ad mr (upd (upd mi 4 x_6) 6 v_34) mf mg)) E hw20 inX8 tyX8_ok nmX8 0 5 q_548 rfl rfl (by decide) rfl rfl rfl rfl (Nat.le_of_ble_eq_true rfl) rfl dX8_readNumber_65 (fun H locs hw35 => ?_)
            refine lv_aload_n (pc := 68) E.1 E.2.1 dX8_readNumber_68 rfl (lv_at hl10 0 rfl) ?_
            refine lv_dup (pc := 69) E.1 E.2.1 dX8_readNumber_69 rfl ?_
            refine x_get (pc := 70) (T := TX8) (N := 9) (ci := 8) (v := .int x_6) E hw35 inX8 0 3 q_541 rfl rfl (by decide) rfl rfl dX8_readNumber_70 ?_
            refine lv_iconst (pc := 73) (v := 1) E.1 E.2.1 dX8_readNumber_73 (by decide +kernel) ?_
            refine lv_iadd (pc := 74) E.1 E.2.1 dX8_readNumber_74 ?_
            refine lv_topi (fun v_36 ev_36 => ?_)
            have hv_36 : v_36.toInt = x_6.toInt + 1 := by rw [ev_36]; exact addE rfl (by decide +kernel) (by omega)
            refine x_put (pc := 75) (T := TX8) (N := 9) (ci := 8) (ws' := (WZ_Tape cI cJ ad mr (upd (upd mi 4 v_36) 6 v_34) mf mg)) E hw35 inX8 tyX8_ok nmX8 0 3 q_541 rfl rfl (by decide) rfl rfl rfl rfl (Nat.le_of_ble_eq_true rfl) rfl dX8_readNumber_75 (fun H locs hw37 => ?_)
            refine lv_goto (pc := 78) (tgt := 5) E.1 E.2.1 dX8_readNumber_78 (by decide) ?_
            exact ih_8 v_36 v_34 _ _ _ ⟨(by show 0 ≤ v_36.toInt; omega), (by show v_36.toInt ≤ (mi 2).toInt; omega), (by show (mi 7).toInt ≤ v_36.toInt; omega), (by show (mi 4).toInt ≤ v_36.toInt; omega), (by show 0 ≤ v_34.toInt; omega), (by show v_34.toInt ≤ 9999; omega), (rnI_step hi_7_6 ev_16 (by omega) (by omega) (dgt_t (by omega)) (m := v_36.toInt) (by omega)), (DVI_st hi_7_7 ev_32 (by omega) rfl (by omega) (by omega) (by omega) (by omega))⟩ (by omega) hw37 (lv_sub hl10 [0] rfl)
        · skip
          have ha_24 : v_16.toInt ≤ 47 := ha_24
          refine lv_if_eq (pc := 28) (tgt := 81) E.1 E.2.1 dX8_readNumber_28 (by decide) (fun _ => ?_) (fun c_38 => absurd (meqE (a := 0) (b := 0) (by decide +kernel) (by decide +kernel) (by omega)) c_38)
          have hen : x_6.toInt = rnI dgtB (mf 1) (mi 2).toInt (mi 7).toInt := rnI_stop hi_7_6 ev_16 (by omega) (by omega) (dgt_f (by omega))
          refine lv_aload_n (pc := 81) E.1 E.2.1 dX8_readNumber_81 rfl (lv_at hl10 0 rfl) ?_
          refine lv_aload_n (pc := 82) E.1 E.2.1 dX8_readNumber_82 rfl (lv_at hl10 0 rfl) ?_
          refine x_get (pc := 83) (T := TX8) (N := 9) (ci := 8) (v := .int x_6) E hw20 inX8 0 3 q_541 rfl rfl (by decide) rfl rfl dX8_readNumber_83 ?_
          refine lv_aload_n (pc := 86) E.1 E.2.1 dX8_readNumber_86 rfl (lv_at hl10 0 rfl) ?_
          refine x_get (pc := 87) (T := TX8) (N := 9) (ci := 8) (v := .int (mi 7)) E hw20 inX8 0 6 q_549 rfl rfl (by decide) rfl rfl dX8_readNumber_87 ?_
          refine lv_isub (pc := 90) E.1 E.2.1 dX8_readNumber_90 ?_
          refine lv_topi (fun v_39 ev_39 => ?_)
          have hv_39 : v_39.toInt = x_6.toInt - (mi 7).toInt := by rw [ev_39]; exact subE rfl rfl (by omega)
          refine lv_iconst (pc := 91) (v := 4) E.1 E.2.1 dX8_readNumber_91 (by decide +kernel) ?_
          refine lv_icmp_gt (pc := 92) (tgt := 99) E.1 E.2.1 dX8_readNumber_92 (by decide) (fun c_40 => ?_) (fun c_40 => ?_)
          · skip
            have hc_40 := ltE (a := 4) (b := v_39.toInt) (by decide +kernel) rfl c_40
            refine lv_iconst (pc := 99) (v := 2) E.1 E.2.1 dX8_readNumber_99 (by decide +kernel) ?_
            refine x_put (pc := 100) (T := TX8) (N := 9) (ci := 8) (ws' := (WZ_Tape cI cJ ad mr (upd (upd (upd mi 4 x_6) 5 2) 6 x_7) mf mg)) E hw20 inX8 tyX8_ok nmX8 0 4 q_546 rfl rfl (by decide) rfl rfl rfl rfl (Nat.le_of_ble_eq_true rfl) rfl dX8_readNumber_100 (fun H locs hw41 => ?_)
            exact em_v (w1 := (fun (u : Int32 × Int32 × Int32) => (WZ_Tape cI cJ ad mr (upd (upd (upd mi 6 u.1) 4 u.2.1) 5 u.2.2) mf mg))) E hr hlk (x_7, x_6, 2) hw41 ⟨(by show 0 ≤ x_6.toInt; have k_0 : (2 : Int32).toInt = 2 := (by decide +kernel); omega), (by show x_6.toInt ≤ (mi 2).toInt; have k_0 : (2 : Int32).toInt = 2 := (by decide +kernel); omega), (by show (mi 4).toInt ≤ x_6.toInt; have k_0 : (2 : Int32).toInt = 2 := (by decide +kernel); omega), (show RNF (mf 1) (mi 2).toInt (mi 7).toInt x_6.toInt (2 : Int32).toInt x_7.toInt from ⟨hen, (Or.inr ⟨by omega, by decide +kernel⟩)⟩)⟩ (Nat.le_of_ble_eq_true rfl) (Nat.le_of_ble_eq_true rfl) dX8_readNumber_103
          · skip
            have hc_40 := nltE (a := 4) (b := v_39.toInt) (by decide +kernel) rfl c_40
            refine lv_iconst (pc := 95) (v := 1) E.1 E.2.1 dX8_readNumber_95 (by decide +kernel) ?_
            refine lv_goto (pc := 96) (tgt := 100) E.1 E.2.1 dX8_readNumber_96 (by decide) ?_
            refine x_put (pc := 100) (T := TX8) (N := 9) (ci := 8) (ws' := (WZ_Tape cI cJ ad mr (upd (upd (upd mi 4 x_6) 5 1) 6 x_7) mf mg)) E hw20 inX8 tyX8_ok nmX8 0 4 q_546 rfl rfl (by decide) rfl rfl rfl rfl (Nat.le_of_ble_eq_true rfl) rfl dX8_readNumber_100 (fun H locs hw42 => ?_)
            exact em_v (w1 := (fun (u : Int32 × Int32 × Int32) => (WZ_Tape cI cJ ad mr (upd (upd (upd mi 6 u.1) 4 u.2.1) 5 u.2.2) mf mg))) E hr hlk (x_7, x_6, 1) hw42 ⟨(by show 0 ≤ x_6.toInt; have k_0 : (1 : Int32).toInt = 1 := (by decide +kernel); omega), (by show x_6.toInt ≤ (mi 2).toInt; have k_0 : (1 : Int32).toInt = 1 := (by decide +kernel); omega), (by show (mi 4).toInt ≤ x_6.toInt; have k_0 : (1 : Int32).toInt = 1 := (by decide +kernel); omega), (show RNF (mf 1) (mi 2).toInt (mi 7).toInt x_6.toInt (1 : Int32).toInt x_7.toInt from ⟨hen, (Or.inl ⟨by omega, by decide +kernel, (hi_7_7 (by omega)).1⟩)⟩)⟩ (Nat.le_of_ble_eq_true rfl) (Nat.le_of_ble_eq_true rfl) dX8_readNumber_103
        · skip
          have ha_25 : 58 ≤ v_16.toInt := ha_25
          refine lv_if_eq (pc := 28) (tgt := 81) E.1 E.2.1 dX8_readNumber_28 (by decide) (fun _ => ?_) (fun c_43 => absurd (meqE (a := 0) (b := 0) (by decide +kernel) (by decide +kernel) (by omega)) c_43)
          have hen : x_6.toInt = rnI dgtB (mf 1) (mi 2).toInt (mi 7).toInt := rnI_stop hi_7_6 ev_16 (by omega) (by omega) (dgt_f (by omega))
          refine lv_aload_n (pc := 81) E.1 E.2.1 dX8_readNumber_81 rfl (lv_at hl10 0 rfl) ?_
          refine lv_aload_n (pc := 82) E.1 E.2.1 dX8_readNumber_82 rfl (lv_at hl10 0 rfl) ?_
          refine x_get (pc := 83) (T := TX8) (N := 9) (ci := 8) (v := .int x_6) E hw20 inX8 0 3 q_541 rfl rfl (by decide) rfl rfl dX8_readNumber_83 ?_
          refine lv_aload_n (pc := 86) E.1 E.2.1 dX8_readNumber_86 rfl (lv_at hl10 0 rfl) ?_
          refine x_get (pc := 87) (T := TX8) (N := 9) (ci := 8) (v := .int (mi 7)) E hw20 inX8 0 6 q_549 rfl rfl (by decide) rfl rfl dX8_readNumber_87 ?_
          refine lv_isub (pc := 90) E.1 E.2.1 dX8_readNumber_90 ?_
          refine lv_topi (fun v_44 ev_44 => ?_)
          have hv_44 : v_44.toInt = x_6.toInt - (mi 7).toInt := by rw [ev_44]; exact subE rfl rfl (by omega)
          refine lv_iconst (pc := 91) (v := 4) E.1 E.2.1 dX8_readNumber_91 (by decide +kernel) ?_
          refine lv_icmp_gt (pc := 92) (tgt := 99) E.1 E.2.1 dX8_readNumber_92 (by decide) (fun c_45 => ?_) (fun c_45 => ?_)
          · skip
            have hc_45 := ltE (a := 4) (b := v_44.toInt) (by decide +kernel) rfl c_45
            refine lv_iconst (pc := 99) (v := 2) E.1 E.2.1 dX8_readNumber_99 (by decide +kernel) ?_
            refine x_put (pc := 100) (T := TX8) (N := 9) (ci := 8) (ws' := (WZ_Tape cI cJ ad mr (upd (upd (upd mi 4 x_6) 5 2) 6 x_7) mf mg)) E hw20 inX8 tyX8_ok nmX8 0 4 q_546 rfl rfl (by decide) rfl rfl rfl rfl (Nat.le_of_ble_eq_true rfl) rfl dX8_readNumber_100 (fun H locs hw46 => ?_)
            exact em_v (w1 := (fun (u : Int32 × Int32 × Int32) => (WZ_Tape cI cJ ad mr (upd (upd (upd mi 6 u.1) 4 u.2.1) 5 u.2.2) mf mg))) E hr hlk (x_7, x_6, 2) hw46 ⟨(by show 0 ≤ x_6.toInt; have k_0 : (2 : Int32).toInt = 2 := (by decide +kernel); omega), (by show x_6.toInt ≤ (mi 2).toInt; have k_0 : (2 : Int32).toInt = 2 := (by decide +kernel); omega), (by show (mi 4).toInt ≤ x_6.toInt; have k_0 : (2 : Int32).toInt = 2 := (by decide +kernel); omega), (show RNF (mf 1) (mi 2).toInt (mi 7).toInt x_6.toInt (2 : Int32).toInt x_7.toInt from ⟨hen, (Or.inr ⟨by omega, by decide +kernel⟩)⟩)⟩ (Nat.le_of_ble_eq_true rfl) (Nat.le_of_ble_eq_true rfl) dX8_readNumber_103
          · skip
            have hc_45 := nltE (a := 4) (b := v_44.toInt) (by decide +kernel) rfl c_45
            refine lv_iconst (pc := 95) (v := 1) E.1 E.2.1 dX8_readNumber_95 (by decide +kernel) ?_
            refine lv_goto (pc := 96) (tgt := 100) E.1 E.2.1 dX8_readNumber_96 (by decide) ?_
            refine x_put (pc := 100) (T := TX8) (N := 9) (ci := 8) (ws' := (WZ_Tape cI cJ ad mr (upd (upd (upd mi 4 x_6) 5 1) 6 x_7) mf mg)) E hw20 inX8 tyX8_ok nmX8 0 4 q_546 rfl rfl (by decide) rfl rfl rfl rfl (Nat.le_of_ble_eq_true rfl) rfl dX8_readNumber_100 (fun H locs hw47 => ?_)
            exact em_v (w1 := (fun (u : Int32 × Int32 × Int32) => (WZ_Tape cI cJ ad mr (upd (upd (upd mi 6 u.1) 4 u.2.1) 5 u.2.2) mf mg))) E hr hlk (x_7, x_6, 1) hw47 ⟨(by show 0 ≤ x_6.toInt; have k_0 : (1 : Int32).toInt = 1 := (by decide +kernel); omega), (by show x_6.toInt ≤ (mi 2).toInt; have k_0 : (1 : Int32).toInt = 1 := (by decide +kernel); omega), (by show (mi 4).toInt ≤ x_6.toInt; have k_0 : (1 : Int32).toInt = 1 := (by decide +kernel); omega), (show RNF (mf 1) (mi 2).toInt (mi 7).toInt x_6.toInt (1 : Int32).toInt x_7.toInt from ⟨hen, (Or.inl ⟨by omega, by decide +kernel, (hi_7_7 (by omega)).1⟩)⟩)⟩ (Nat.le_of_ble_eq_true rfl) (Nat.le_of_ble_eq_true rfl) dX8_readNumber_103
  exact loop_5 (Int.toNat ((mi 2).toInt - (mi 4).toInt) + 1) (mi 4) 0 _ _ _ ⟨(by show 0 ≤ (mi 4).toInt; omega), (by show (mi 4).toInt ≤ (mi 2).toInt; omega), (by show (mi 7).toInt ≤ (mi 4).toInt; omega), (by show (mi 4).toInt ≤ (mi 4).toInt; omega), (by show 0 ≤ (0 : Int32).toInt; have k_0 : (0 : Int32).toInt = 0 := (by decide +kernel); omega), (by show (0 : Int32).toInt ≤ 9999; have k_0 : (0 : Int32).toInt = 0 := (by decide +kernel); omega), (congrArg (rnI dgtB (mf 1) (mi 2).toInt) (by omega)), (DVI_0 (by omega) (by decide +kernel))⟩ (by have k_1 : (0 : Int32).toInt = 0 := (by decide +kernel); omega) hw4 (lv_sub hl3 [0] rfl)

