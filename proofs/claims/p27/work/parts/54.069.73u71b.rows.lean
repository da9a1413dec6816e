set_option maxHeartbeats 4000000 in
set_option maxRecDepth 100000 in
theorem t_rooms0_D2 (l : Launch) (D : va_G) (cI cJ : ClassId) (sz : Nat) (mr : Nat → Nat) (mi : Nat → Int32) (mf : Nat → Nat → Int32) (mg : Nat → Nat → Int64) (z_what : Int32) (mv : Nat → Value) (h0 : 0 ≤ (mi 1).toInt ∧ (mi 1).toInt ≤ 5) (h1 : 0 ≤ (mi 2).toInt ∧ (mi 2).toInt ≤ 6) (h2 : 0 ≤ (mi 4).toInt ∧ (mi 4).toInt ≤ 1000) (h3 : 0 ≤ (mi 6).toInt ∧ (mi 6).toInt ≤ 99) (h4 : 0 ≤ (mi 14).toInt ∧ (mi 14).toInt ≤ 10) : Met l yX11_rooms (Cond.code yX11_rooms cX11_rooms 3 (some .int) :: GW) ({ frames := 11, cells := 1, slots := 1024, locals := 263 } : Room) (va_Pc [.ref (mr 0), .int z_what] (PW D cI cJ sz (WZ_Mrooms0 cI cJ mv mr mi mf mg) xT)) (va_Qi (fun (r : Int32) (u : Bool × (Nat → Nat) × (Nat → Int32) × (Nat → Nat → Int32) × (Nat → Nat → Int64)) => (0 ≤ (u.2.2.1 1).toInt) ∧ ((u.2.2.1 1).toInt ≤ 5) ∧ (0 ≤ (u.2.2.1 2).toInt) ∧ ((u.2.2.1 2).toInt ≤ 6) ∧ (0 ≤ (u.2.2.1 4).toInt) ∧ ((u.2.2.1 4).toInt ≤ 1000) ∧ (0 ≤ (u.2.2.1 6).toInt) ∧ ((u.2.2.1 6).toInt ≤ 99) ∧ (0 ≤ (u.2.2.1 14).toInt) ∧ ((u.2.2.1 14).toInt ≤ 10) ∧ ((u.2.2.1 14).toInt = (mi 14).toInt) ∧ ((u.2.2.1 2).toInt = (mi 2).toInt) ∧ ((u.2.2.1 1).toInt = (mi 1).toInt) ∧ ((u.2.2.1 4).toInt = (mi 4).toInt) ∧ ((Eq (mf 9)) (u.2.2.2.1 9)) ∧ (∀ k : Nat, k < 17 → u.2.1 k = mr k)) (fun u => QW D cI cJ (va_A (WZ_Mrooms0 cI cJ mv mr mi mf mg) sz) ((fun (u : Bool × (Nat → Nat) × (Nat → Int32) × (Nat → Nat → Int32) × (Nat → Nat → Int64)) => cond u.1 (WZ_rooms1 cI cJ mv u.2.1 u.2.2.1 u.2.2.2.1 u.2.2.2.2) (WZ_Mrooms0 cI cJ mv mr u.2.2.1 u.2.2.2.1 u.2.2.2.2)) u)) (va_A (WZ_Mrooms0 cI cJ mv mr mi mf mg) sz)) 1 1024 (va_A (WZ_Mrooms0 cI cJ mv mr mi mf mg) sz) := by
  refine mk_met (y := yX11_rooms) (bytes := cX11_rooms) (maxL := 3) (avs := [.ref (mr 0), .int z_what]) (WS := (WZ_Mrooms0 cI cJ mv mr mi mf mg)) (Qf := fun A => va_Qi (fun (r : Int32) (u : Bool × (Nat → Nat) × (Nat → Int32) × (Nat → Nat → Int32) × (Nat → Nat → Int64)) => (0 ≤ (u.2.2.1 1).toInt) ∧ ((u.2.2.1 1).toInt ≤ 5) ∧ (0 ≤ (u.2.2.1 2).toInt) ∧ ((u.2.2.1 2).toInt ≤ 6) ∧ (0 ≤ (u.2.2.1 4).toInt) ∧ ((u.2.2.1 4).toInt ≤ 1000) ∧ (0 ≤ (u.2.2.1 6).toInt) ∧ ((u.2.2.1 6).toInt ≤ 99) ∧ (0 ≤ (u.2.2.1 14).toInt) ∧ ((u.2.2.1 14).toInt ≤ 10) ∧ ((u.2.2.1 14).toInt = (mi 14).toInt) ∧ ((u.2.2.1 2).toInt = (mi 2).toInt) ∧ ((u.2.2.1 1).toInt = (mi 1).toInt) ∧ ((u.2.2.1 4).toInt = (mi 4).toInt) ∧ ((Eq (mf 9)) (u.2.2.2.1 9)) ∧ (∀ k : Nat, k < 17 → u.2.1 k = mr k)) (fun u => QW D cI cJ A ((fun (u : Bool × (Nat → Nat) × (Nat → Int32) × (Nat → Nat → Int32) × (Nat → Nat → Int64)) => cond u.1 (WZ_rooms1 cI cJ mv u.2.1 u.2.2.1 u.2.2.2.1 u.2.2.2.2) (WZ_Mrooms0 cI cJ mv mr u.2.2.1 u.2.2.2.1 u.2.2.2.2)) u)) A) (by decide) (Nat.le_of_ble_eq_true rfl) ?_
  intro p e s m below meth c A ls E hr hlk hnm hX hw1 hl2
  have hl3 : lv_has ls 3 [(0, .ref (mr 0)), (1, .int z_what)] := hl2
  have hwm := Int32.toInt_lt z_what
  refine lv_iload_n (pc := 0) E.1 E.2.1 dX11_rooms_0 rfl (lv_at hl3 1 rfl) ?_
  refine lv_if_eq (pc := 1) (tgt := 29) E.1 E.2.1 dX11_rooms_1 (by decide) (fun c_4 => ?_) (fun c_4 => ?_)
  · skip
    have hc_4 := eqE (a := z_what.toInt) (b := 0) rfl (by decide +kernel) c_4
    refine lv_aload_n (pc := 29) E.1 E.2.1 dX11_rooms_29 rfl (lv_at hl3 0 rfl) ?_
    refine x_get (pc := 30) (T := TX11) (N := 13) (ci := 11) (v := .ref (mr 3)) E hw1 inX11 0 0 q_606 rfl rfl (by decide) rfl rfl dX11_rooms_30 ?_
    refine x_get (pc := 33) (T := TX10) (N := 17) (ci := 10) (v := .ref (mr 8)) E hw1 inX10 1 1 q_463 rfl rfl (by decide) rfl rfl dX11_rooms_33 ?_
    refine cl_i (pc := 36) (k1 := 1) (n1 := 1024) (wr := restW (WZ_Mrooms0 cI cJ mv mr mi mf mg) [0, 1]) hw1 [2, 3, 4, 5, 6, 7, 8, 9] [0, 1] rfl rfl (by decide) (by decide) (Nat.le_of_ble_eq_true rfl) (Nat.le_of_ble_eq_true rfl) (rn_V (As := []) (rest := []) E hw1 (t_pairUp0 l D cI cJ _ (ixf [8, 9, 10, 11, 12, 13, 14, 15, 16] mr) (ixf [8, 9, 10, 11, 12, 13, 14, 15, 16] mi) (ixf [8, 9, 10, 11, 12, 13, 14, 15, 16] mf) (ixf [8, 9, 10, 11, 12, 13, 14, 15, 16] mg) (by show 0 ≤ (mi 14).toInt ∧ (mi 14).toInt ≤ 10; omega)) (gdV q_1264 q_1265 q_1266 q_154 q_1267) hdV_X1_pairUp ⟨rfl, rfl⟩ ⟨(Nat.le_of_ble_eq_true rfl), (Nat.le_of_ble_eq_true rfl)⟩ ⟨(Nat.le_of_ble_eq_true rfl), (Nat.le_of_ble_eq_true rfl)⟩ xT_b xT_at 2 1 rfl rfl rfl [2, 3, 4, 5, 6, 7, 8, 9] rfl (by decide) rfl hl3.1 rfl (Nat.le_of_ble_eq_true rfl) dX11_rooms_36) (fun r_6 u_5 H1 locs hp hw7 => ?_)
    generalize H1 = H at hw7 ⊢
    obtain ⟨b_8, k_9, Mi_10, Mf_11, Mg_12⟩ := u_5
    obtain ⟨hp_13, hp_14, hp_15, hp_16, hp_17, hp_18⟩ := hp
    obtain rfl : b_8 = true := hp_13
    have hw19 := hw7
    have ek0_k_9 : k_9 0 = mr 8 := hp_18 0 (by decide)
    have ek1_k_9 : k_9 1 = mr 9 := hp_18 1 (by decide)
    have ek2_k_9 : k_9 2 = mr 10 := hp_18 2 (by decide)
    have ek3_k_9 : k_9 3 = mr 11 := hp_18 3 (by decide)
    have ek4_k_9 : k_9 4 = mr 12 := hp_18 4 (by decide)
    have ek5_k_9 : k_9 5 = mr 13 := hp_18 5 (by decide)
    have ek7_k_9 : k_9 7 = mr 15 := hp_18 7 (by decide)
    have ek8_k_9 : k_9 8 = mr 16 := hp_18 8 (by decide)
    simp only [cond_true, WZ_Houses1, ek0_k_9, ek1_k_9, ek2_k_9, ek3_k_9, ek4_k_9, ek5_k_9, ek7_k_9, ek8_k_9] at hw19
    have hw20 : WD D A s.heap (WZ_rooms1 cI cJ mv (va_up mr 17 (k_9 9)) (upd mi 14 (Mi_10 6)) (va_up (va_up (va_up (va_up (va_up (va_up (va_up (va_up mf 9 (Mf_11 1)) 10 (Mf_11 2)) 11 (Mf_11 3)) 12 (Mf_11 4)) 13 (Mf_11 5)) 15 (Mf_11 7)) 16 (Mf_11 8)) 17 (Mf_11 9)) mg) H locs := hw19.sub [0, 1, 2, 3, 4, 5, 6, 7, 8, 9, 10] rfl (by decide)
    have hp_14 : 0 ≤ (Mi_10 6).toInt := hp_14
    have hp_15 : (Mi_10 6).toInt ≤ 10 := hp_15
    have hp_16 : (Mi_10 6).toInt = (mi 14).toInt := hp_16
    refine lv_istore_n (pc := 39) (lv' := [(2, .int r_6), (0, .ref (mr 0)), (1, .int z_what)]) E.1 E.2.1 dX11_rooms_39 rfl hl3 (by decide) rfl (fun ls hl21 => ?_)
    refine lv_iload_n (pc := 40) E.1 E.2.1 dX11_rooms_40 rfl (lv_at hl21 2 rfl) ?_
    refine lv_if_ne (pc := 41) (tgt := 48) E.1 E.2.1 dX11_rooms_41 (by decide) (fun c_22 => absurd (meqE (a := z_what.toInt) (b := 0) rfl (by decide +kernel) (by omega)) c_22) (fun _ => ?_)
    refine lv_iload_n (pc := 44) E.1 E.2.1 dX11_rooms_44 rfl (lv_at hl21 0 rfl) ?_
    refine lv_goto (pc := 45) (tgt := 63) E.1 E.2.1 dX11_rooms_45 (by decide) ?_
    exact em_i (w1 := (fun (u : Bool × (Nat → Nat) × (Nat → Int32) × (Nat → Nat → Int32) × (Nat → Nat → Int64)) => cond u.1 (WZ_rooms1 cI cJ mv u.2.1 u.2.2.1 u.2.2.2.1 u.2.2.2.2) (WZ_Mrooms0 cI cJ mv mr u.2.2.1 u.2.2.2.1 u.2.2.2.2))) E hr hlk (true, (va_up mr 17 (k_9 9)), (upd mi 14 (Mi_10 6)), (va_up (va_up (va_up (va_up (va_up (va_up (va_up (va_up mf 9 (Mf_11 1)) 10 (Mf_11 2)) 11 (Mf_11 3)) 12 (Mf_11 4)) 13 (Mf_11 5)) 15 (Mf_11 7)) 16 (Mf_11 8)) 17 (Mf_11 9)), mg) hw20 ⟨(by show 0 ≤ (mi 1).toInt; omega), (by show (mi 1).toInt ≤ 5; omega), (by show 0 ≤ (mi 2).toInt; omega), (by show (mi 2).toInt ≤ 6; omega), (by show 0 ≤ (mi 4).toInt; omega), (by show (mi 4).toInt ≤ 1000; omega), (by show 0 ≤ (mi 6).toInt; omega), (by show (mi 6).toInt ≤ 99; omega), (by show 0 ≤ (Mi_10 6).toInt; omega), (by show (Mi_10 6).toInt ≤ 10; omega), (by show (Mi_10 6).toInt = (mi 14).toInt; omega), (by show (mi 2).toInt = (mi 2).toInt; omega), (by show (mi 1).toInt = (mi 1).toInt; omega), (by show (mi 4).toInt = (mi 4).toInt; omega), hp_17, (fun k hk => by show (va_up mr 17 (k_9 9)) k = mr k; simp only [va_up]; repeat rw [if_neg (by omega)])⟩ (Nat.le_of_ble_eq_true rfl) (Nat.le_of_ble_eq_true rfl) dX11_rooms_63
  · skip
    have hc_4 := neE (a := z_what.toInt) (b := 0) rfl (by decide +kernel) c_4
    refine lv_iload_n (pc := 4) E.1 E.2.1 dX11_rooms_4 rfl (lv_at hl3 1 rfl) ?_
    refine lv_bipush (pc := 5) (v := 10) E.1 E.2.1 dX11_rooms_5 (by decide +kernel) ?_
    refine lv_icmp_lt (pc := 7) (tgt := 27) E.1 E.2.1 dX11_rooms_7 (by decide) (fun c_23 => ?_) (fun c_23 => ?_)
    · skip
      have hc_23 := ltE (a := z_what.toInt) (b := 10) rfl (by decide +kernel) c_23
      refine lv_iconst (pc := 27) (v := (-1)) E.1 E.2.1 dX11_rooms_27 (by decide +kernel) ?_
      exact em_i (w1 := (fun (u : Bool × (Nat → Nat) × (Nat → Int32) × (Nat → Nat → Int32) × (Nat → Nat → Int64)) => cond u.1 (WZ_rooms1 cI cJ mv u.2.1 u.2.2.1 u.2.2.2.1 u.2.2.2.2) (WZ_Mrooms0 cI cJ mv mr u.2.2.1 u.2.2.2.1 u.2.2.2.2))) E hr hlk (false, mr, mi, mf, mg) hw1 ⟨(by show 0 ≤ (mi 1).toInt; have k_0 : ((-1) : Int32).toInt = -1 := (by decide +kernel); omega), (by show (mi 1).toInt ≤ 5; have k_0 : ((-1) : Int32).toInt = -1 := (by decide +kernel); omega), (by show 0 ≤ (mi 2).toInt; have k_0 : ((-1) : Int32).toInt = -1 := (by decide +kernel); omega), (by show (mi 2).toInt ≤ 6; have k_0 : ((-1) : Int32).toInt = -1 := (by decide +kernel); omega), (by show 0 ≤ (mi 4).toInt; have k_0 : ((-1) : Int32).toInt = -1 := (by decide +kernel); omega), (by show (mi 4).toInt ≤ 1000; have k_0 : ((-1) : Int32).toInt = -1 := (by decide +kernel); omega), (by show 0 ≤ (mi 6).toInt; have k_0 : ((-1) : Int32).toInt = -1 := (by decide +kernel); omega), (by show (mi 6).toInt ≤ 99; have k_0 : ((-1) : Int32).toInt = -1 := (by decide +kernel); omega), (by show 0 ≤ (mi 14).toInt; have k_0 : ((-1) : Int32).toInt = -1 := (by decide +kernel); omega), (by show (mi 14).toInt ≤ 10; have k_0 : ((-1) : Int32).toInt = -1 := (by decide +kernel); omega), (by show (mi 14).toInt = (mi 14).toInt; have k_0 : ((-1) : Int32).toInt = -1 := (by decide +kernel); omega), (by show (mi 2).toInt = (mi 2).toInt; have k_0 : ((-1) : Int32).toInt = -1 := (by decide +kernel); omega), (by show (mi 1).toInt = (mi 1).toInt; have k_0 : ((-1) : Int32).toInt = -1 := (by decide +kernel); omega), (by show (mi 4).toInt = (mi 4).toInt; have k_0 : ((-1) : Int32).toInt = -1 := (by decide +kernel); omega), rfl, (fun _ _ => rfl)⟩ (Nat.le_of_ble_eq_true rfl) (Nat.le_of_ble_eq_true rfl) dX11_rooms_28
    · skip
      have hc_23 := nltE (a := z_what.toInt) (b := 10) rfl (by decide +kernel) c_23
      refine lv_aload_n (pc := 10) E.1 E.2.1 dX11_rooms_10 rfl (lv_at hl3 0 rfl) ?_
      refine x_get (pc := 11) (T := TX11) (N := 13) (ci := 11) (v := .ref (mr 3)) E hw1 inX11 0 0 q_606 rfl rfl (by decide) rfl rfl dX11_rooms_11 ?_
      refine x_get (pc := 14) (T := TX10) (N := 17) (ci := 10) (v := .ref (mr 8)) E hw1 inX10 1 1 q_463 rfl rfl (by decide) rfl rfl dX11_rooms_14 ?_
      refine lv_iload_n (pc := 17) E.1 E.2.1 dX11_rooms_17 rfl (lv_at hl3 1 rfl) ?_
      refine lv_bipush (pc := 18) (v := 10) E.1 E.2.1 dX11_rooms_18 (by decide +kernel) ?_
      refine lv_isub (pc := 20) E.1 E.2.1 dX11_rooms_20 ?_
      refine lv_topi (fun v_24 ev_24 => ?_)
      have hv_24 : v_24.toInt = z_what.toInt - 10 := by rw [ev_24]; exact subE rfl (by decide +kernel) (by omega)
      refine cq_i (pc := 21) (ws' := (fun (u : Unit) => (WZ_Mrooms0 cI cJ mv mr mi mf mg))) hw1 [2, 3, 4, 5, 6, 7, 8, 9] [0, 1] [0, 1, 2, 3, 4, 5, 6, 7, 8, 9] rfl rfl (by decide) (by decide) (fun _ => rfl) (by decide) (rn_V (As := [.int v_24]) (rest := []) E hw1 (t_has l D cI cJ _ (ixf [8, 9, 10, 11, 12, 13, 14, 15, 16] mr) (ixf [8, 9, 10, 11, 12, 13, 14, 15, 16] mi) (ixf [8, 9, 10, 11, 12, 13, 14, 15, 16] mf) (ixf [8, 9, 10, 11, 12, 13, 14, 15, 16] mg) v_24 (vl [.null])) (gdV q_674 q_675 q_676 q_154 q_677) hdV_X1_has ⟨rfl, rfl⟩ ⟨(Nat.le_of_ble_eq_true rfl), (Nat.le_of_ble_eq_true rfl)⟩ ⟨(Nat.le_of_ble_eq_true rfl), (Nat.le_of_ble_eq_true rfl)⟩ xT_b xT_at 2 1 rfl rfl rfl [2, 3, 4, 5, 6, 7, 8, 9] rfl (by decide) rfl hl3.1 rfl (Nat.le_of_ble_eq_true rfl) dX11_rooms_21) (fun r_26 u_25 H1 locs hp hw27 => ?_)
      generalize H1 = H at hw27 ⊢
      have hw28 : WD D A s.heap (WZ_Mrooms0 cI cJ mv mr mi mf mg) H locs := hw27
      have hp_29 := hp
      rcases hp_29 with ⟨rfl, ha_30, ha_31, ha_32⟩ | ⟨rfl, ha_33⟩ | ⟨rfl, ha_34⟩ | ⟨rfl, ha_35⟩
      · skip
        have ha_30 : 0 ≤ v_24.toInt := ha_30
        have ha_31 : v_24.toInt + 1 ≤ (mi 14).toInt := ha_31
        have ha_32 : v_24.toInt ≤ 9 := ha_32
        refine lv_if_ne (pc := 24) (tgt := 29) E.1 E.2.1 dX11_rooms_24 (by decide) (fun _ => ?_) (fun c_36 => absurd c_36 (mneE (a := 1) (b := 0) (by decide +kernel) (by decide +kernel) (by omega)))
        refine lv_aload_n (pc := 29) E.1 E.2.1 dX11_rooms_29 rfl (lv_at hl3 0 rfl) ?_
        refine x_get (pc := 30) (T := TX11) (N := 13) (ci := 11) (v := .ref (mr 3)) E hw28 inX11 0 0 q_606 rfl rfl (by decide) rfl rfl dX11_rooms_30 ?_
        refine x_get (pc := 33) (T := TX10) (N := 17) (ci := 10) (v := .ref (mr 8)) E hw28 inX10 1 1 q_463 rfl rfl (by decide) rfl rfl dX11_rooms_33 ?_
        refine cl_i (pc := 36) (k1 := 1) (n1 := 1024) (wr := restW (WZ_Mrooms0 cI cJ mv mr mi mf mg) [0, 1]) hw28 [2, 3, 4, 5, 6, 7, 8, 9] [0, 1] rfl rfl (by decide) (by decide) (Nat.le_of_ble_eq_true rfl) (Nat.le_of_ble_eq_true rfl) (rn_V (As := []) (rest := []) E hw28 (t_pairUp0 l D cI cJ _ (ixf [8, 9, 10, 11, 12, 13, 14, 15, 16] mr) (ixf [8, 9, 10, 11, 12, 13, 14, 15, 16] mi) (ixf [8, 9, 10, 11, 12, 13, 14, 15, 16] mf) (ixf [8, 9, 10, 11, 12, 13, 14, 15, 16] mg) (by show 0 ≤ (mi 14).toInt ∧ (mi 14).toInt ≤ 10; omega)) (gdV q_1264 q_1265 q_1266 q_154 q_1267) hdV_X1_pairUp ⟨rfl, rfl⟩ ⟨(Nat.le_of_ble_eq_true rfl), (Nat.le_of_ble_eq_true rfl)⟩ ⟨(Nat.le_of_ble_eq_true rfl), (Nat.le_of_ble_eq_true rfl)⟩ xT_b xT_at 2 1 rfl rfl rfl [2, 3, 4, 5, 6, 7, 8, 9] rfl (by decide) rfl hl3.1 rfl (Nat.le_of_ble_eq_true rfl) dX11_rooms_36) (fun r_38 u_37 H1 locs hp hw39 => ?_)
        generalize H1 = H at hw39 ⊢
        obtain ⟨b_40, k_41, Mi_42, Mf_43, Mg_44⟩ := u_37
        obtain ⟨hp_45, hp_46, hp_47, hp_48, hp_49, hp_50⟩ := hp
        obtain rfl : b_40 = true := hp_45
        have hw51 := hw39
        have ek0_k_41 : k_41 0 = mr 8 := hp_50 0 (by decide)
        have ek1_k_41 : k_41 1 = mr 9 := hp_50 1 (by decide)
        have ek2_k_41 : k_41 2 = mr 10 := hp_50 2 (by decide)
        have ek3_k_41 : k_41 3 = mr 11 := hp_50 3 (by decide)
        have ek4_k_41 : k_41 4 = mr 12 := hp_50 4 (by decide)
        have ek5_k_41 : k_41 5 = mr 13 := hp_50 5 (by decide)
        have ek7_k_41 : k_41 7 = mr 15 := hp_50 7 (by decide)
        have ek8_k_41 : k_41 8 = mr 16 := hp_50 8 (by decide)
        simp only [cond_true, WZ_Houses1, ek0_k_41, ek1_k_41, ek2_k_41, ek3_k_41, ek4_k_41, ek5_k_41, ek7_k_41, ek8_k_41] at hw51
        have hw52 : WD D A s.heap (WZ_rooms1 cI cJ mv (va_up mr 17 (k_41 9)) (upd mi 14 (Mi_42 6)) (va_up (va_up (va_up (va_up (va_up (va_up (va_up (va_up mf 9 (Mf_43 1)) 10 (Mf_43 2)) 11 (Mf_43 3)) 12 (Mf_43 4)) 13 (Mf_43 5)) 15 (Mf_43 7)) 16 (Mf_43 8)) 17 (Mf_43 9)) mg) H locs := hw51.sub [0, 1, 2, 3, 4, 5, 6, 7, 8, 9, 10] rfl (by decide)
        have hp_46 : 0 ≤ (Mi_42 6).toInt := hp_46
        have hp_47 : (Mi_42 6).toInt ≤ 10 := hp_47
        have hp_48 : (Mi_42 6).toInt = (mi 14).toInt := hp_48
        refine lv_istore_n (pc := 39) (lv' := [(2, .int r_38), (0, .ref (mr 0)), (1, .int z_what)]) E.1 E.2.1 dX11_rooms_39 rfl hl3 (by decide) rfl (fun ls hl53 => ?_)
        refine lv_iload_n (pc := 40) E.1 E.2.1 dX11_rooms_40 rfl (lv_at hl53 2 rfl) ?_
        refine lv_if_ne (pc := 41) (tgt := 48) E.1 E.2.1 dX11_rooms_41 (by decide) (fun _ => ?_) (fun c_54 => absurd c_54 (mneE (a := z_what.toInt) (b := 0) rfl (by decide +kernel) (by omega)))
        refine lv_aload_n (pc := 48) E.1 E.2.1 dX11_rooms_48 rfl (lv_at hl53 1 rfl) ?_
        refine x_get (pc := 49) (T := TX11) (N := 13) (ci := 11) (v := .ref (mr 3)) E hw52 inX11 0 0 q_606 rfl rfl (by decide) rfl rfl dX11_rooms_49 ?_
        refine x_get (pc := 52) (T := TX10) (N := 17) (ci := 10) (v := .ref (mr 8)) E hw52 inX10 1 1 q_463 rfl rfl (by decide) rfl rfl dX11_rooms_52 ?_
        refine x_get (pc := 55) (T := TX1) (N := 9) (ci := 1) (v := .ref (mr 16)) E hw52 inX1 2 7 q_287 rfl rfl (by decide) rfl rfl dX11_rooms_55 ?_
        refine lv_iload_n (pc := 58) E.1 E.2.1 dX11_rooms_58 rfl (lv_at hl53 2 rfl) ?_
        refine lv_bipush (pc := 59) (v := 10) E.1 E.2.1 dX11_rooms_59 (by decide +kernel) ?_
        refine lv_isub (pc := 61) E.1 E.2.1 dX11_rooms_61 ?_
        refine lv_topi (fun v_55 ev_55 => ?_)
        have hv_55 : v_55.toInt = z_what.toInt - 10 := by rw [ev_55]; exact subE rfl (by decide +kernel) (by omega)
        refine x_iald (pc := 62) (f := (Mf_43 8)) E hw52 9 rfl (inbE (a := v_55.toInt) rfl (by omega)) dX11_rooms_62 ?_
        refine lv_topi (fun v_56 ev_56 => ?_)
        exact em_i (w1 := (fun (u : Bool × (Nat → Nat) × (Nat → Int32) × (Nat → Nat → Int32) × (Nat → Nat → Int64)) => cond u.1 (WZ_rooms1 cI cJ mv u.2.1 u.2.2.1 u.2.2.2.1 u.2.2.2.2) (WZ_Mrooms0 cI cJ mv mr u.2.2.1 u.2.2.2.1 u.2.2.2.2))) E hr hlk (true, (va_up mr 17 (k_41 9)), (upd mi 14 (Mi_42 6)), (va_up (va_up (va_up (va_up (va_up (va_up (va_up (va_up mf 9 (Mf_43 1)) 10 (Mf_43 2)) 11 (Mf_43 3)) 12 (Mf_43 4)) 13 (Mf_43 5)) 15 (Mf_43 7)) 16 (Mf_43 8)) 17 (Mf_43 9)), mg) hw52 ⟨(by show 0 ≤ (mi 1).toInt; omega), (by show (mi 1).toInt ≤ 5; omega), (by show 0 ≤ (mi 2).toInt; omega), (by show (mi 2).toInt ≤ 6; omega), (by show 0 ≤ (mi 4).toInt; omega), (by show (mi 4).toInt ≤ 1000; omega), (by show 0 ≤ (mi 6).toInt; omega), (by show (mi 6).toInt ≤ 99; omega), (by show 0 ≤ (Mi_42 6).toInt; omega), (by show (Mi_42 6).toInt ≤ 10; omega), (by show (Mi_42 6).toInt = (mi 14).toInt; omega), (by show (mi 2).toInt = (mi 2).toInt; omega), (by show (mi 1).toInt = (mi 1).toInt; omega), (by show (mi 4).toInt = (mi 4).toInt; omega), hp_49, (fun k hk => by show (va_up mr 17 (k_41 9)) k = mr k; simp only [va_up]; repeat rw [if_neg (by omega)])⟩ (Nat.le_of_ble_eq_true rfl) (Nat.le_of_ble_eq_true rfl) dX11_rooms_63
      · skip
        have ha_33 : v_24.toInt + 1 ≤ 0 := ha_33
        exfalso; omega
      · skip
        have ha_34 : (mi 14).toInt ≤ v_24.toInt := ha_34
        refine lv_if_ne (pc := 24) (tgt := 29) E.1 E.2.1 dX11_rooms_24 (by decide) (fun c_57 => absurd (meqE (a := 0) (b := 0) (by decide +kernel) (by decide +kernel) (by omega)) c_57) (fun _ => ?_)
        refine lv_iconst (pc := 27) (v := (-1)) E.1 E.2.1 dX11_rooms_27 (by decide +kernel) ?_
        exact em_i (w1 := (fun (u : Bool × (Nat → Nat) × (Nat → Int32) × (Nat → Nat → Int32) × (Nat → Nat → Int64)) => cond u.1 (WZ_rooms1 cI cJ mv u.2.1 u.2.2.1 u.2.2.2.1 u.2.2.2.2) (WZ_Mrooms0 cI cJ mv mr u.2.2.1 u.2.2.2.1 u.2.2.2.2))) E hr hlk (false, mr, mi, mf, mg) hw28 ⟨(by show 0 ≤ (mi 1).toInt; have k_0 : ((-1) : Int32).toInt = -1 := (by decide +kernel); omega), (by show (mi 1).toInt ≤ 5; have k_0 : ((-1) : Int32).toInt = -1 := (by decide +kernel); omega), (by show 0 ≤ (mi 2).toInt; have k_0 : ((-1) : Int32).toInt = -1 := (by decide +kernel); omega), (by show (mi 2).toInt ≤ 6; have k_0 : ((-1) : Int32).toInt = -1 := (by decide +kernel); omega), (by show 0 ≤ (mi 4).toInt; have k_0 : ((-1) : Int32).toInt = -1 := (by decide +kernel); omega), (by show (mi 4).toInt ≤ 1000; have k_0 : ((-1) : Int32).toInt = -1 := (by decide +kernel); omega), (by show 0 ≤ (mi 6).toInt; have k_0 : ((-1) : Int32).toInt = -1 := (by decide +kernel); omega), (by show (mi 6).toInt ≤ 99; have k_0 : ((-1) : Int32).toInt = -1 := (by decide +kernel); omega), (by show 0 ≤ (mi 14).toInt; have k_0 : ((-1) : Int32).toInt = -1 := (by decide +kernel); omega), (by show (mi 14).toInt ≤ 10; have k_0 : ((-1) : Int32).toInt = -1 := (by decide +kernel); omega), (by show (mi 14).toInt = (mi 14).toInt; have k_0 : ((-1) : Int32).toInt = -1 := (by decide +kernel); omega), (by show (mi 2).toInt = (mi 2).toInt; have k_0 : ((-1) : Int32).toInt = -1 := (by decide +kernel); omega), (by show (mi 1).toInt = (mi 1).toInt; have k_0 : ((-1) : Int32).toInt = -1 := (by decide +kernel); omega), (by show (mi 4).toInt = (mi 4).toInt; have k_0 : ((-1) : Int32).toInt = -1 := (by decide +kernel); omega), rfl, (fun _ _ => rfl)⟩ (Nat.le_of_ble_eq_true rfl) (Nat.le_of_ble_eq_true rfl) dX11_rooms_28
      · skip
        have ha_35 : 10 ≤ v_24.toInt := ha_35
        refine lv_if_ne (pc := 24) (tgt := 29) E.1 E.2.1 dX11_rooms_24 (by decide) (fun c_58 => absurd (meqE (a := 0) (b := 0) (by decide +kernel) (by decide +kernel) (by omega)) c_58) (fun _ => ?_)
        refine lv_iconst (pc := 27) (v := (-1)) E.1 E.2.1 dX11_rooms_27 (by decide +kernel) ?_
        exact em_i (w1 := (fun (u : Bool × (Nat → Nat) × (Nat → Int32) × (Nat → Nat → Int32) × (Nat → Nat → Int64)) => cond u.1 (WZ_rooms1 cI cJ mv u.2.1 u.2.2.1 u.2.2.2.1 u.2.2.2.2) (WZ_Mrooms0 cI cJ mv mr u.2.2.1 u.2.2.2.1 u.2.2.2.2))) E hr hlk (false, mr, mi, mf, mg) hw28 ⟨(by show 0 ≤ (mi 1).toInt; have k_0 : ((-1) : Int32).toInt = -1 := (by decide +kernel); omega), (by show (mi 1).toInt ≤ 5; have k_0 : ((-1) : Int32).toInt = -1 := (by decide +kernel); omega), (by show 0 ≤ (mi 2).toInt; have k_0 : ((-1) : Int32).toInt = -1 := (by decide +kernel); omega), (by show (mi 2).toInt ≤ 6; have k_0 : ((-1) : Int32).toInt = -1 := (by decide +kernel); omega), (by show 0 ≤ (mi 4).toInt; have k_0 : ((-1) : Int32).toInt = -1 := (by decide +kernel); omega), (by show (mi 4).toInt ≤ 1000; have k_0 : ((-1) : Int32).toInt = -1 := (by decide +kernel); omega), (by show 0 ≤ (mi 6).toInt; have k_0 : ((-1) : Int32).toInt = -1 := (by decide +kernel); omega), (by show (mi 6).toInt ≤ 99; have k_0 : ((-1) : Int32).toInt = -1 := (by decide +kernel); omega), (by show 0 ≤ (mi 14).toInt; have k_0 : ((-1) : Int32).toInt = -1 := (by decide +kernel); omega), (by show (mi 14).toInt ≤ 10; have k_0 : ((-1) : Int32).toInt = -1 := (by decide +kernel); omega), (by show (mi 14).toInt = (mi 14).toInt; have k_0 : ((-1) : Int32).toInt = -1 := (by decide +kernel); omega), (by show (mi 2).toInt = (mi 2).toInt; have k_0 : ((-1) : Int32).toInt = -1 := (by decide +kernel); omega), (by show (mi 1).toInt = (mi 1).toInt; have k_0 : ((-1) : Int32).toInt = -1 := (by decide +kernel); omega), (by show (mi 4).toInt = (mi 4).toInt; have k_0 : ((-1) : Int32).toInt = -1 := (by decide +kernel); omega), rfl, (fun _ _ => rfl)⟩ (Nat.le_of_ble_eq_true rfl) (Nat.le_of_ble_eq_true rfl) dX11_rooms_28
