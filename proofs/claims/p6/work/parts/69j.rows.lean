set_option maxHeartbeats 4000000 in
set_option maxRecDepth 100000 in
theorem t_book (l : Launch) (D : va_G) (cI cJ : ClassId) (sz : Nat) (mr : Nat → Nat) (mi : Nat → Int32) (mf : Nat → Nat → Int32) (mg : Nat → Nat → Int64) (z_i : Int32) (z_what : Int32) (mv : Nat → Value) (h0 : 0 ≤ (mi 1).toInt ∧ (mi 1).toInt ≤ 5) (h1 : 0 ≤ (mi 2).toInt ∧ (mi 2).toInt ≤ 6) (h2 : 0 ≤ (mi 15).toInt ∧ (mi 15).toInt ≤ 200) : Met l yX11_book (Cond.code yX11_book cX11_book 3 (some .int) :: GW) ({ frames := 11, cells := 0, slots := 0, locals := 263 } : Room) (va_Pc [.ref (mr 0), .int z_i, .int z_what] (PW D cI cJ sz (WZ_Mbook cI cJ mv mr mi mf mg) xT)) (va_Qi (fun (r : Int32) (u : (Nat → Int32) × (Nat → Nat → Int32) × (Nat → Nat → Int64)) => (0 ≤ (u.1 1).toInt) ∧ ((u.1 1).toInt ≤ 5) ∧ (0 ≤ (u.1 2).toInt) ∧ ((u.1 2).toInt ≤ 6) ∧ (0 ≤ (u.1 15).toInt) ∧ ((u.1 15).toInt ≤ 200)) (fun u => QW D cI cJ (va_A (WZ_Mbook cI cJ mv mr mi mf mg) sz) ((fun (u : (Nat → Int32) × (Nat → Nat → Int32) × (Nat → Nat → Int64)) => (WZ_Mbook cI cJ mv mr u.1 u.2.1 u.2.2)) u)) (va_A (WZ_Mbook cI cJ mv mr mi mf mg) sz)) 0 0 (va_A (WZ_Mbook cI cJ mv mr mi mf mg) sz) := by
  refine mk_met (y := yX11_book) (bytes := cX11_book) (maxL := 3) (avs := [.ref (mr 0), .int z_i, .int z_what]) (WS := (WZ_Mbook cI cJ mv mr mi mf mg)) (Qf := fun A => va_Qi (fun (r : Int32) (u : (Nat → Int32) × (Nat → Nat → Int32) × (Nat → Nat → Int64)) => (0 ≤ (u.1 1).toInt) ∧ ((u.1 1).toInt ≤ 5) ∧ (0 ≤ (u.1 2).toInt) ∧ ((u.1 2).toInt ≤ 6) ∧ (0 ≤ (u.1 15).toInt) ∧ ((u.1 15).toInt ≤ 200)) (fun u => QW D cI cJ A ((fun (u : (Nat → Int32) × (Nat → Nat → Int32) × (Nat → Nat → Int64)) => (WZ_Mbook cI cJ mv mr u.1 u.2.1 u.2.2)) u)) A) (by decide) (Nat.le_of_ble_eq_true rfl) ?_
  intro p e s m below meth c A ls E hr hlk hnm hX hw1 hl2
  have hl3 : lv_has ls 3 [(0, .ref (mr 0)), (1, .int z_i), (2, .int z_what)] := hl2
  refine lv_iload_n (pc := 0) E.1 E.2.1 dX11_book_0 rfl (lv_at hl3 1 rfl) ?_
  refine lv_if_lt (pc := 1) (tgt := 35) E.1 E.2.1 dX11_book_1 (by decide) (fun c_4 => ?_) (fun c_4 => ?_)
  · skip
    have hc_4 := ltE (a := z_i.toInt) (b := 0) rfl (by decide +kernel) c_4
    refine lv_iconst (pc := 35) (v := (-1)) E.1 E.2.1 dX11_book_35 (by decide +kernel) ?_
    exact em_i (w1 := (fun (u : (Nat → Int32) × (Nat → Nat → Int32) × (Nat → Nat → Int64)) => (WZ_Mbook cI cJ mv mr u.1 u.2.1 u.2.2))) E hr hlk (mi, mf, mg) hw1 ⟨(by show 0 ≤ (mi 1).toInt; have k_0 : ((-1) : Int32).toInt = -1 := (by decide +kernel); omega), (by show (mi 1).toInt ≤ 5; have k_0 : ((-1) : Int32).toInt = -1 := (by decide +kernel); omega), (by show 0 ≤ (mi 2).toInt; have k_0 : ((-1) : Int32).toInt = -1 := (by decide +kernel); omega), (by show (mi 2).toInt ≤ 6; have k_0 : ((-1) : Int32).toInt = -1 := (by decide +kernel); omega), (by show 0 ≤ (mi 15).toInt; have k_0 : ((-1) : Int32).toInt = -1 := (by decide +kernel); omega), (by show (mi 15).toInt ≤ 200; have k_0 : ((-1) : Int32).toInt = -1 := (by decide +kernel); omega)⟩ (Nat.le_of_ble_eq_true rfl) (Nat.le_of_ble_eq_true rfl) dX11_book_36
  · skip
    have hc_4 := nltE (a := z_i.toInt) (b := 0) rfl (by decide +kernel) c_4
    refine lv_iload_n (pc := 4) E.1 E.2.1 dX11_book_4 rfl (lv_at hl3 1 rfl) ?_
    refine lv_aload_n (pc := 5) E.1 E.2.1 dX11_book_5 rfl (lv_at hl3 0 rfl) ?_
    refine x_get (pc := 6) (T := TX11) (N := 13) (ci := 11) (v := .ref (mr 3)) E hw1 inX11 0 0 q_606 rfl rfl (by decide) rfl rfl dX11_book_6 ?_
    refine x_get (pc := 9) (T := TX10) (N := 17) (ci := 10) (v := .ref (mr 9)) E hw1 inX10 1 0 q_458 rfl rfl (by decide) rfl rfl dX11_book_9 ?_
    refine x_get (pc := 12) (T := TX4) (N := 12) (ci := 4) (v := .int (mi 16)) E hw1 inX4 3 11 q_233 rfl rfl (by decide) rfl rfl dX11_book_12 ?_
    refine lv_icmp_ge (pc := 15) (tgt := 35) E.1 E.2.1 dX11_book_15 (by decide) (fun c_5 => ?_) (fun c_5 => ?_)
    · skip
      have hc_5 := leE (a := (mi 16).toInt) (b := z_i.toInt) rfl rfl c_5
      refine lv_iconst (pc := 35) (v := (-1)) E.1 E.2.1 dX11_book_35 (by decide +kernel) ?_
      exact em_i (w1 := (fun (u : (Nat → Int32) × (Nat → Nat → Int32) × (Nat → Nat → Int64)) => (WZ_Mbook cI cJ mv mr u.1 u.2.1 u.2.2))) E hr hlk (mi, mf, mg) hw1 ⟨(by show 0 ≤ (mi 1).toInt; have k_0 : ((-1) : Int32).toInt = -1 := (by decide +kernel); omega), (by show (mi 1).toInt ≤ 5; have k_0 : ((-1) : Int32).toInt = -1 := (by decide +kernel); omega), (by show 0 ≤ (mi 2).toInt; have k_0 : ((-1) : Int32).toInt = -1 := (by decide +kernel); omega), (by show (mi 2).toInt ≤ 6; have k_0 : ((-1) : Int32).toInt = -1 := (by decide +kernel); omega), (by show 0 ≤ (mi 15).toInt; have k_0 : ((-1) : Int32).toInt = -1 := (by decide +kernel); omega), (by show (mi 15).toInt ≤ 200; have k_0 : ((-1) : Int32).toInt = -1 := (by decide +kernel); omega)⟩ (Nat.le_of_ble_eq_true rfl) (Nat.le_of_ble_eq_true rfl) dX11_book_36
    · skip
      have hc_5 := nleE (a := (mi 16).toInt) (b := z_i.toInt) rfl rfl c_5
      refine lv_iload_n (pc := 18) E.1 E.2.1 dX11_book_18 rfl (lv_at hl3 1 rfl) ?_
      refine lv_sipush (pc := 19) (v := 150) E.1 E.2.1 dX11_book_19 (by decide +kernel) ?_
      refine lv_icmp_ge (pc := 22) (tgt := 35) E.1 E.2.1 dX11_book_22 (by decide) (fun c_6 => ?_) (fun c_6 => ?_)
      · skip
        have hc_6 := leE (a := 150) (b := z_i.toInt) (by decide +kernel) rfl c_6
        refine lv_iconst (pc := 35) (v := (-1)) E.1 E.2.1 dX11_book_35 (by decide +kernel) ?_
        exact em_i (w1 := (fun (u : (Nat → Int32) × (Nat → Nat → Int32) × (Nat → Nat → Int64)) => (WZ_Mbook cI cJ mv mr u.1 u.2.1 u.2.2))) E hr hlk (mi, mf, mg) hw1 ⟨(by show 0 ≤ (mi 1).toInt; have k_0 : ((-1) : Int32).toInt = -1 := (by decide +kernel); omega), (by show (mi 1).toInt ≤ 5; have k_0 : ((-1) : Int32).toInt = -1 := (by decide +kernel); omega), (by show 0 ≤ (mi 2).toInt; have k_0 : ((-1) : Int32).toInt = -1 := (by decide +kernel); omega), (by show (mi 2).toInt ≤ 6; have k_0 : ((-1) : Int32).toInt = -1 := (by decide +kernel); omega), (by show 0 ≤ (mi 15).toInt; have k_0 : ((-1) : Int32).toInt = -1 := (by decide +kernel); omega), (by show (mi 15).toInt ≤ 200; have k_0 : ((-1) : Int32).toInt = -1 := (by decide +kernel); omega)⟩ (Nat.le_of_ble_eq_true rfl) (Nat.le_of_ble_eq_true rfl) dX11_book_36
      · skip
        have hc_6 := nleE (a := 150) (b := z_i.toInt) (by decide +kernel) rfl c_6
        refine lv_iload_n (pc := 25) E.1 E.2.1 dX11_book_25 rfl (lv_at hl3 2 rfl) ?_
        refine lv_if_lt (pc := 26) (tgt := 35) E.1 E.2.1 dX11_book_26 (by decide) (fun c_7 => ?_) (fun c_7 => ?_)
        · skip
          have hc_7 := ltE (a := z_what.toInt) (b := 0) rfl (by decide +kernel) c_7
          refine lv_iconst (pc := 35) (v := (-1)) E.1 E.2.1 dX11_book_35 (by decide +kernel) ?_
          exact em_i (w1 := (fun (u : (Nat → Int32) × (Nat → Nat → Int32) × (Nat → Nat → Int64)) => (WZ_Mbook cI cJ mv mr u.1 u.2.1 u.2.2))) E hr hlk (mi, mf, mg) hw1 ⟨(by show 0 ≤ (mi 1).toInt; have k_0 : ((-1) : Int32).toInt = -1 := (by decide +kernel); omega), (by show (mi 1).toInt ≤ 5; have k_0 : ((-1) : Int32).toInt = -1 := (by decide +kernel); omega), (by show 0 ≤ (mi 2).toInt; have k_0 : ((-1) : Int32).toInt = -1 := (by decide +kernel); omega), (by show (mi 2).toInt ≤ 6; have k_0 : ((-1) : Int32).toInt = -1 := (by decide +kernel); omega), (by show 0 ≤ (mi 15).toInt; have k_0 : ((-1) : Int32).toInt = -1 := (by decide +kernel); omega), (by show (mi 15).toInt ≤ 200; have k_0 : ((-1) : Int32).toInt = -1 := (by decide +kernel); omega)⟩ (Nat.le_of_ble_eq_true rfl) (Nat.le_of_ble_eq_true rfl) dX11_book_36
        · skip
          have hc_7 := nltE (a := z_what.toInt) (b := 0) rfl (by decide +kernel) c_7
          refine lv_iload_n (pc := 29) E.1 E.2.1 dX11_book_29 rfl (lv_at hl3 2 rfl) ?_
          refine lv_bipush (pc := 30) (v := 6) E.1 E.2.1 dX11_book_30 (by decide +kernel) ?_
          refine lv_icmp_lt (pc := 32) (tgt := 37) E.1 E.2.1 dX11_book_32 (by decide) (fun c_8 => ?_) (fun c_8 => ?_)
          · skip
            have hc_8 := ltE (a := z_what.toInt) (b := 6) rfl (by decide +kernel) c_8
            refine lv_aload_n (pc := 37) E.1 E.2.1 dX11_book_37 rfl (lv_at hl3 0 rfl) ?_
            refine x_get (pc := 38) (T := TX11) (N := 13) (ci := 11) (v := .ref (mr 3)) E hw1 inX11 0 0 q_606 rfl rfl (by decide) rfl rfl dX11_book_38 ?_
            refine x_get (pc := 41) (T := TX10) (N := 17) (ci := 10) (v := .ref (mr 4)) E hw1 inX10 1 8 q_480 rfl rfl (by decide) rfl rfl dX11_book_41 ?_
            refine lv_iload_n (pc := 44) E.1 E.2.1 dX11_book_44 rfl (lv_at hl3 1 rfl) ?_
            refine lv_bipush (pc := 45) (v := 6) E.1 E.2.1 dX11_book_45 (by decide +kernel) ?_
            refine lv_imul (pc := 47) E.1 E.2.1 dX11_book_47 ?_
            refine lv_topi (fun v_9 ev_9 => ?_)
            have hv_9 : v_9.toInt = z_i.toInt * 6 := by rw [ev_9]; exact mulE rfl (by decide +kernel) (by omega)
            refine lv_iload_n (pc := 48) E.1 E.2.1 dX11_book_48 rfl (lv_at hl3 2 rfl) ?_
            refine lv_iadd (pc := 49) E.1 E.2.1 dX11_book_49 ?_
            refine lv_topi (fun v_10 ev_10 => ?_)
            have hv_10 : v_10.toInt = v_9.toInt + z_what.toInt := by rw [ev_10]; exact addE rfl rfl (by omega)
            refine x_iald (pc := 50) (f := (mf 4)) E hw1 2 rfl (inbE (a := v_10.toInt) rfl (by omega)) dX11_book_50 ?_
            refine lv_topi (fun v_11 ev_11 => ?_)
            exact em_i (w1 := (fun (u : (Nat → Int32) × (Nat → Nat → Int32) × (Nat → Nat → Int64)) => (WZ_Mbook cI cJ mv mr u.1 u.2.1 u.2.2))) E hr hlk (mi, mf, mg) hw1 ⟨(by show 0 ≤ (mi 1).toInt; omega), (by show (mi 1).toInt ≤ 5; omega), (by show 0 ≤ (mi 2).toInt; omega), (by show (mi 2).toInt ≤ 6; omega), (by show 0 ≤ (mi 15).toInt; omega), (by show (mi 15).toInt ≤ 200; omega)⟩ (Nat.le_of_ble_eq_true rfl) (Nat.le_of_ble_eq_true rfl) dX11_book_51
          · skip
            have hc_8 := nltE (a := z_what.toInt) (b := 6) rfl (by decide +kernel) c_8
            refine lv_iconst (pc := 35) (v := (-1)) E.1 E.2.1 dX11_book_35 (by decide +kernel) ?_
            exact em_i (w1 := (fun (u : (Nat → Int32) × (Nat → Nat → Int32) × (Nat → Nat → Int64)) => (WZ_Mbook cI cJ mv mr u.1 u.2.1 u.2.2))) E hr hlk (mi, mf, mg) hw1 ⟨(by show 0 ≤ (mi 1).toInt; have k_0 : ((-1) : Int32).toInt = -1 := (by decide +kernel); omega), (by show (mi 1).toInt ≤ 5; have k_0 : ((-1) : Int32).toInt = -1 := (by decide +kernel); omega), (by show 0 ≤ (mi 2).toInt; have k_0 : ((-1) : Int32).toInt = -1 := (by decide +kernel); omega), (by show (mi 2).toInt ≤ 6; have k_0 : ((-1) : Int32).toInt = -1 := (by decide +kernel); omega), (by show 0 ≤ (mi 15).toInt; have k_0 : ((-1) : Int32).toInt = -1 := (by decide +kernel); omega), (by show (mi 15).toInt ≤ 200; have k_0 : ((-1) : Int32).toInt = -1 := (by decide +kernel); omega)⟩ (Nat.le_of_ble_eq_true rfl) (Nat.le_of_ble_eq_true rfl) dX11_book_36
set_option maxHeartbeats 4000000 in
set_option maxRecDepth 100000 in
theorem t_least (l : Launch) (D : va_G) (cI cJ : ClassId) (sz : Nat) (mr : Nat → Nat) (mi : Nat → Int32) (mf : Nat → Nat → Int32) (mg : Nat → Nat → Int64) (z_set : Int32)  : Met l yX11_least (Cond.code yX11_least cX11_least 2 (some .int) :: GW) ({ frames := 1, cells := 0, slots := 0, locals := 40 } : Room) (va_Pc [.int z_set] (PW D cI cJ sz (WZ_El cI cJ mr mi mf mg) xT)) (va_Qi (fun (r : Int32) (u : Unit) => True) (fun u => QW D cI cJ (va_A (WZ_El cI cJ mr mi mf mg) sz) ((fun (u : Unit) => (WZ_El cI cJ mr mi mf mg)) u)) (va_A (WZ_El cI cJ mr mi mf mg) sz)) 0 0 (va_A (WZ_El cI cJ mr mi mf mg) sz) := by
  refine mk_met (y := yX11_least) (bytes := cX11_least) (maxL := 2) (avs := [.int z_set]) (WS := (WZ_El cI cJ mr mi mf mg)) (Qf := fun A => va_Qi (fun (r : Int32) (u : Unit) => True) (fun u => QW D cI cJ A ((fun (u : Unit) => (WZ_El cI cJ mr mi mf mg)) u)) A) (by decide) (Nat.le_of_ble_eq_true rfl) ?_
  intro p e s m below meth c A ls E hr hlk hnm hX hw1 hl2
  have hl3 : lv_has ls 2 [(0, .int z_set)] := hl2
  refine lv_iconst (pc := 0) (v := 0) E.1 E.2.1 dX11_least_0 (by decide +kernel) ?_
  refine lv_istore_n (pc := 1) (lv' := [(1, .int 0), (0, .int z_set)]) E.1 E.2.1 dX11_least_1 rfl hl3 (by decide) rfl (fun ls hl4 => ?_)
  have loop_5 : ∀ (k : Nat) (x_6 : Int32) (H : Heap) (locs : List Loc) (ls : Array Slot), (0 ≤ x_6.toInt) ∧ (x_6.toInt ≤ 10) → 10 - x_6.toInt < (k : Int) → WD D A s.heap (WZ_El cI cJ mr mi mf mg) H locs → lv_has ls 2 [(1, .int x_6), (0, .int z_set)] → W p l e ({ frames := 1, cells := 0, slots := 0, locals := 40 } : Room) s m ([.int z_set] : List Value).toArray below meth c H locs 0 0 (MQ below (va_Qi (fun (r : Int32) (u : Unit) => True) (fun u => QW D cI cJ A ((fun (u : Unit) => (WZ_El cI cJ mr mi mf mg)) u)) A) ([.int z_set] : List Value).toArray s 0 0 A) (F0 m 2 ls []) := by
    intro k
    induction k with
    | zero =>
      intro x_6 _ _ _ hinv hm
      obtain ⟨hi_6_0, hi_6_1⟩ := hinv
      exact absurd hm (by omega)
    | succ k ih_7 =>
      intro x_6 H locs ls hinv hm hw8 hl9
      obtain ⟨hi_6_0, hi_6_1⟩ := hinv
      refine lv_iload_n (pc := 2) E.1 E.2.1 dX11_least_2 rfl (lv_at hl9 0 rfl) ?_
      refine lv_bipush (pc := 3) (v := 10) E.1 E.2.1 dX11_least_3 (by decide +kernel) ?_
      refine lv_icmp_ge (pc := 5) (tgt := 25) E.1 E.2.1 dX11_least_5 (by decide) (fun c_10 => ?_) (fun c_10 => ?_)
      · skip
        have hc_10 := leE (a := 10) (b := x_6.toInt) (by decide +kernel) rfl c_10
        refine lv_iconst (pc := 25) (v := (-1)) E.1 E.2.1 dX11_least_25 (by decide +kernel) ?_
        exact em_i (w1 := (fun (u : Unit) => (WZ_El cI cJ mr mi mf mg))) E hr hlk () hw8 trivial (Nat.le_of_ble_eq_true rfl) (Nat.le_of_ble_eq_true rfl) dX11_least_26
      · skip
        have hc_10 := nleE (a := 10) (b := x_6.toInt) (by decide +kernel) rfl c_10
        refine lv_iload_n (pc := 8) E.1 E.2.1 dX11_least_8 rfl (lv_at hl9 1 rfl) ?_
        refine lv_iload_n (pc := 9) E.1 E.2.1 dX11_least_9 rfl (lv_at hl9 0 rfl) ?_
        refine lv_ishr (pc := 10) E.1 E.2.1 dX11_least_10 ?_
        refine lv_topi (fun v_11 ev_11 => ?_)
        refine lv_iconst (pc := 11) (v := 1) E.1 E.2.1 dX11_least_11 (by decide +kernel) ?_
        refine lv_iand (pc := 12) E.1 E.2.1 dX11_least_12 ?_
        refine lv_topi (fun v_12 ev_12 => ?_)
        refine lv_iconst (pc := 13) (v := 1) E.1 E.2.1 dX11_least_13 (by decide +kernel) ?_
        refine lv_icmp_ne (pc := 14) (tgt := 19) E.1 E.2.1 dX11_least_14 (by decide) (fun c_13 => ?_) (fun c_13 => ?_)
        · skip
          have hc_13 := neE (a := v_12.toInt) (b := 1) rfl (by decide +kernel) c_13
          obtain ⟨v_14, ev_14⟩ : ∃ z : Int32, x_6 + Int32.ofInt (1) = z := ⟨_, rfl⟩
          have hv_14 : v_14.toInt = x_6.toInt + (1) := by rw [← ev_14]; exact incE rfl (by decide) (by omega)
          refine lv_iinc (pc := 19) (v := v_14) (lv' := [(1, .int v_14), (0, .int z_set)]) E.1 E.2.1 dX11_least_19 hl9 (k := 0) rfl ev_14 (by decide) rfl (fun ls hl15 => ?_)
          refine lv_goto (pc := 22) (tgt := 2) E.1 E.2.1 dX11_least_22 (by decide) ?_
          exact ih_7 v_14 _ _ _ ⟨(by show 0 ≤ v_14.toInt; omega), (by show v_14.toInt ≤ 10; omega)⟩ (by omega) hw8 (lv_sub hl15 [0, 1] rfl)
        · skip
          have hc_13 := eqE (a := v_12.toInt) (b := 1) rfl (by decide +kernel) c_13
          refine lv_iload_n (pc := 17) E.1 E.2.1 dX11_least_17 rfl (lv_at hl9 0 rfl) ?_
          exact em_i (w1 := (fun (u : Unit) => (WZ_El cI cJ mr mi mf mg))) E hr hlk () hw8 trivial (Nat.le_of_ble_eq_true rfl) (Nat.le_of_ble_eq_true rfl) dX11_least_18
  exact loop_5 (Int.toNat (10 - 0) + 1) 0 _ _ _ ⟨(by show 0 ≤ (0 : Int32).toInt; have k_0 : (0 : Int32).toInt = 0 := (by decide +kernel); omega), (by show (0 : Int32).toInt ≤ 10; have k_0 : (0 : Int32).toInt = 0 := (by decide +kernel); omega)⟩ (by have k_0 : (0 : Int32).toInt = 0 := (by decide +kernel); omega) hw1 (lv_sub hl4 [0, 1] rfl)
set_option maxHeartbeats 4000000 in
set_option maxRecDepth 100000 in
theorem t_run (l : Launch) (D : va_G) (cI cJ : ClassId) (sz : Nat) (mr : Nat → Nat) (mi : Nat → Int32) (mf : Nat → Nat → Int32) (mg : Nat → Nat → Int64) (z_n : Int32) (z_what : Int32) (mv : Nat → Value) (h0 : 0 ≤ (mi 1).toInt ∧ (mi 1).toInt ≤ 5) (h1 : 0 ≤ (mi 2).toInt ∧ (mi 2).toInt ≤ 6) (h2 : 0 ≤ (mi 24).toInt ∧ (mi 24).toInt ≤ 200) (h3 : 0 ≤ (mi 32).toInt ∧ (mi 32).toInt ≤ 10) (h4 : 0 ≤ (mi 40).toInt ∧ (mi 40).toInt ≤ 40) (h5 : 0 ≤ (mi 49).toInt ∧ (mi 49).toInt ≤ 10) (h6 : 0 ≤ (mi 72).toInt ∧ (mi 72).toInt ≤ 200) (h7 : 0 ≤ (mi 79).toInt ∧ (mi 79).toInt ≤ 8) (a_p_from : p9 (mf 36)) (a_p_to : p9 (mf 37)) (a_t_marks : m4 (mf 53)) (a_u_marks : m4 (mf 63)) : Met l yX11_run (Cond.code yX11_run cX11_run 7 (some .int) :: GW) ({ frames := 11, cells := 0, slots := 0, locals := 263 } : Room) (va_Pc [.ref (mr 0), .int z_n, .int z_what] (PW D cI cJ sz (WZ_Mrun cI cJ mv mr mi mf mg) xT)) (va_Qi (fun (r : Int32) (u : (Nat → Int32) × (Nat → Nat → Int32) × (Nat → Nat → Int64)) => (0 ≤ (u.1 1).toInt) ∧ ((u.1 1).toInt ≤ 5) ∧ (0 ≤ (u.1 2).toInt) ∧ ((u.1 2).toInt ≤ 6) ∧ (0 ≤ (u.1 24).toInt) ∧ ((u.1 24).toInt ≤ 200) ∧ (0 ≤ (u.1 32).toInt) ∧ ((u.1 32).toInt ≤ 10) ∧ (0 ≤ (u.1 40).toInt) ∧ ((u.1 40).toInt ≤ 40) ∧ (0 ≤ (u.1 49).toInt) ∧ ((u.1 49).toInt ≤ 10) ∧ (0 ≤ (u.1 72).toInt) ∧ ((u.1 72).toInt ≤ 200) ∧ (0 ≤ (u.1 79).toInt) ∧ ((u.1 79).toInt ≤ 8) ∧ (p9 (u.2.1 36)) ∧ (p9 (u.2.1 37)) ∧ (m4 (u.2.1 53)) ∧ (m4 (u.2.1 63))) (fun u => QW D cI cJ (va_A (WZ_Mrun cI cJ mv mr mi mf mg) sz) ((fun (u : (Nat → Int32) × (Nat → Nat → Int32) × (Nat → Nat → Int64)) => (WZ_Mrun cI cJ mv mr u.1 u.2.1 u.2.2)) u)) (va_A (WZ_Mrun cI cJ mv mr mi mf mg) sz)) 0 0 (va_A (WZ_Mrun cI cJ mv mr mi mf mg) sz) := by
  refine mk_met (y := yX11_run) (bytes := cX11_run) (maxL := 7) (avs := [.ref (mr 0), .int z_n, .int z_what]) (WS := (WZ_Mrun cI cJ mv mr mi mf mg)) (Qf := fun A => va_Qi (fun (r : Int32) (u : (Nat → Int32) × (Nat → Nat → Int32) × (Nat → Nat → Int64)) => (0 ≤ (u.1 1).toInt) ∧ ((u.1 1).toInt ≤ 5) ∧ (0 ≤ (u.1 2).toInt) ∧ ((u.1 2).toInt ≤ 6) ∧ (0 ≤ (u.1 24).toInt) ∧ ((u.1 24).toInt ≤ 200) ∧ (0 ≤ (u.1 32).toInt) ∧ ((u.1 32).toInt ≤ 10) ∧ (0 ≤ (u.1 40).toInt) ∧ ((u.1 40).toInt ≤ 40) ∧ (0 ≤ (u.1 49).toInt) ∧ ((u.1 49).toInt ≤ 10) ∧ (0 ≤ (u.1 72).toInt) ∧ ((u.1 72).toInt ≤ 200) ∧ (0 ≤ (u.1 79).toInt) ∧ ((u.1 79).toInt ≤ 8) ∧ (p9 (u.2.1 36)) ∧ (p9 (u.2.1 37)) ∧ (m4 (u.2.1 53)) ∧ (m4 (u.2.1 63))) (fun u => QW D cI cJ A ((fun (u : (Nat → Int32) × (Nat → Nat → Int32) × (Nat → Nat → Int64)) => (WZ_Mrun cI cJ mv mr u.1 u.2.1 u.2.2)) u)) A) (by decide) (Nat.le_of_ble_eq_true rfl) ?_
  intro p e s m below meth c A ls E hr hlk hnm hX hw1 hl2
  have hl3 : lv_has ls 7 [(0, .ref (mr 0)), (1, .int z_n), (2, .int z_what)] := hl2
  refine lv_iload_n (pc := 0) E.1 E.2.1 dX11_run_0 rfl (lv_at hl3 1 rfl) ?_
  refine lv_iconst (pc := 1) (v := 1) E.1 E.2.1 dX11_run_1 (by decide +kernel) ?_
  refine lv_icmp_lt (pc := 2) (tgt := 33) E.1 E.2.1 dX11_run_2 (by decide) (fun c_4 => ?_) (fun c_4 => ?_)
  · skip
    have hc_4 := ltE (a := z_n.toInt) (b := 1) rfl (by decide +kernel) c_4
    refine lv_iconst (pc := 33) (v := (-1)) E.1 E.2.1 dX11_run_33 (by decide +kernel) ?_
    exact em_i (w1 := (fun (u : (Nat → Int32) × (Nat → Nat → Int32) × (Nat → Nat → Int64)) => (WZ_Mrun cI cJ mv mr u.1 u.2.1 u.2.2))) E hr hlk (mi, mf, mg) hw1 ⟨(by show 0 ≤ (mi 1).toInt; have k_0 : ((-1) : Int32).toInt = -1 := (by decide +kernel); omega), (by show (mi 1).toInt ≤ 5; have k_0 : ((-1) : Int32).toInt = -1 := (by decide +kernel); omega), (by show 0 ≤ (mi 2).toInt; have k_0 : ((-1) : Int32).toInt = -1 := (by decide +kernel); omega), (by show (mi 2).toInt ≤ 6; have k_0 : ((-1) : Int32).toInt = -1 := (by decide +kernel); omega), (by show 0 ≤ (mi 24).toInt; have k_0 : ((-1) : Int32).toInt = -1 := (by decide +kernel); omega), (by show (mi 24).toInt ≤ 200; have k_0 : ((-1) : Int32).toInt = -1 := (by decide +kernel); omega), (by show 0 ≤ (mi 32).toInt; have k_0 : ((-1) : Int32).toInt = -1 := (by decide +kernel); omega), (by show (mi 32).toInt ≤ 10; have k_0 : ((-1) : Int32).toInt = -1 := (by decide +kernel); omega), (by show 0 ≤ (mi 40).toInt; have k_0 : ((-1) : Int32).toInt = -1 := (by decide +kernel); omega), (by show (mi 40).toInt ≤ 40; have k_0 : ((-1) : Int32).toInt = -1 := (by decide +kernel); omega), (by show 0 ≤ (mi 49).toInt; have k_0 : ((-1) : Int32).toInt = -1 := (by decide +kernel); omega), (by show (mi 49).toInt ≤ 10; have k_0 : ((-1) : Int32).toInt = -1 := (by decide +kernel); omega), (by show 0 ≤ (mi 72).toInt; have k_0 : ((-1) : Int32).toInt = -1 := (by decide +kernel); omega), (by show (mi 72).toInt ≤ 200; have k_0 : ((-1) : Int32).toInt = -1 := (by decide +kernel); omega), (by show 0 ≤ (mi 79).toInt; have k_0 : ((-1) : Int32).toInt = -1 := (by decide +kernel); omega), (by show (mi 79).toInt ≤ 8; have k_0 : ((-1) : Int32).toInt = -1 := (by decide +kernel); omega), a_p_from, a_p_to, a_t_marks, a_u_marks⟩ (Nat.le_of_ble_eq_true rfl) (Nat.le_of_ble_eq_true rfl) dX11_run_34
  · skip
    have hc_4 := nltE (a := z_n.toInt) (b := 1) rfl (by decide +kernel) c_4
    refine lv_iload_n (pc := 5) E.1 E.2.1 dX11_run_5 rfl (lv_at hl3 1 rfl) ?_
    refine lv_bipush (pc := 6) (v := 99) E.1 E.2.1 dX11_run_6 (by decide +kernel) ?_
    refine lv_icmp_gt (pc := 8) (tgt := 33) E.1 E.2.1 dX11_run_8 (by decide) (fun c_5 => ?_) (fun c_5 => ?_)
    · skip
      have hc_5 := ltE (a := 99) (b := z_n.toInt) (by decide +kernel) rfl c_5
      refine lv_iconst (pc := 33) (v := (-1)) E.1 E.2.1 dX11_run_33 (by decide +kernel) ?_
      exact em_i (w1 := (fun (u : (Nat → Int32) × (Nat → Nat → Int32) × (Nat → Nat → Int64)) => (WZ_Mrun cI cJ mv mr u.1 u.2.1 u.2.2))) E hr hlk (mi, mf, mg) hw1 ⟨(by show 0 ≤ (mi 1).toInt; have k_0 : ((-1) : Int32).toInt = -1 := (by decide +kernel); omega), (by show (mi 1).toInt ≤ 5; have k_0 : ((-1) : Int32).toInt = -1 := (by decide +kernel); omega), (by show 0 ≤ (mi 2).toInt; have k_0 : ((-1) : Int32).toInt = -1 := (by decide +kernel); omega), (by show (mi 2).toInt ≤ 6; have k_0 : ((-1) : Int32).toInt = -1 := (by decide +kernel); omega), (by show 0 ≤ (mi 24).toInt; have k_0 : ((-1) : Int32).toInt = -1 := (by decide +kernel); omega), (by show (mi 24).toInt ≤ 200; have k_0 : ((-1) : Int32).toInt = -1 := (by decide +kernel); omega), (by show 0 ≤ (mi 32).toInt; have k_0 : ((-1) : Int32).toInt = -1 := (by decide +kernel); omega), (by show (mi 32).toInt ≤ 10; have k_0 : ((-1) : Int32).toInt = -1 := (by decide +kernel); omega), (by show 0 ≤ (mi 40).toInt; have k_0 : ((-1) : Int32).toInt = -1 := (by decide +kernel); omega), (by show (mi 40).toInt ≤ 40; have k_0 : ((-1) : Int32).toInt = -1 := (by decide +kernel); omega), (by show 0 ≤ (mi 49).toInt; have k_0 : ((-1) : Int32).toInt = -1 := (by decide +kernel); omega), (by show (mi 49).toInt ≤ 10; have k_0 : ((-1) : Int32).toInt = -1 := (by decide +kernel); omega), (by show 0 ≤ (mi 72).toInt; have k_0 : ((-1) : Int32).toInt = -1 := (by decide +kernel); omega), (by show (mi 72).toInt ≤ 200; have k_0 : ((-1) : Int32).toInt = -1 := (by decide +kernel); omega), (by show 0 ≤ (mi 79).toInt; have k_0 : ((-1) : Int32).toInt = -1 := (by decide +kernel); omega), (by show (mi 79).toInt ≤ 8; have k_0 : ((-1) : Int32).toInt = -1 := (by decide +kernel); omega), a_p_from, a_p_to, a_t_marks, a_u_marks⟩ (Nat.le_of_ble_eq_true rfl) (Nat.le_of_ble_eq_true rfl) dX11_run_34
    · skip
      have hc_5 := nltE (a := 99) (b := z_n.toInt) (by decide +kernel) rfl c_5
      refine lv_iload_n (pc := 11) E.1 E.2.1 dX11_run_11 rfl (lv_at hl3 2 rfl) ?_
      refine lv_if_lt (pc := 12) (tgt := 33) E.1 E.2.1 dX11_run_12 (by decide) (fun c_6 => ?_) (fun c_6 => ?_)
      · skip
        have hc_6 := ltE (a := z_what.toInt) (b := 0) rfl (by decide +kernel) c_6
        refine lv_iconst (pc := 33) (v := (-1)) E.1 E.2.1 dX11_run_33 (by decide +kernel) ?_
        exact em_i (w1 := (fun (u : (Nat → Int32) × (Nat → Nat → Int32) × (Nat → Nat → Int64)) => (WZ_Mrun cI cJ mv mr u.1 u.2.1 u.2.2))) E hr hlk (mi, mf, mg) hw1 ⟨(by show 0 ≤ (mi 1).toInt; have k_0 : ((-1) : Int32).toInt = -1 := (by decide +kernel); omega), (by show (mi 1).toInt ≤ 5; have k_0 : ((-1) : Int32).toInt = -1 := (by decide +kernel); omega), (by show 0 ≤ (mi 2).toInt; have k_0 : ((-1) : Int32).toInt = -1 := (by decide +kernel); omega), (by show (mi 2).toInt ≤ 6; have k_0 : ((-1) : Int32).toInt = -1 := (by decide +kernel); omega), (by show 0 ≤ (mi 24).toInt; have k_0 : ((-1) : Int32).toInt = -1 := (by decide +kernel); omega), (by show (mi 24).toInt ≤ 200; have k_0 : ((-1) : Int32).toInt = -1 := (by decide +kernel); omega), (by show 0 ≤ (mi 32).toInt; have k_0 : ((-1) : Int32).toInt = -1 := (by decide +kernel); omega), (by show (mi 32).toInt ≤ 10; have k_0 : ((-1) : Int32).toInt = -1 := (by decide +kernel); omega), (by show 0 ≤ (mi 40).toInt; have k_0 : ((-1) : Int32).toInt = -1 := (by decide +kernel); omega), (by show (mi 40).toInt ≤ 40; have k_0 : ((-1) : Int32).toInt = -1 := (by decide +kernel); omega), (by show 0 ≤ (mi 49).toInt; have k_0 : ((-1) : Int32).toInt = -1 := (by decide +kernel); omega), (by show (mi 49).toInt ≤ 10; have k_0 : ((-1) : Int32).toInt = -1 := (by decide +kernel); omega), (by show 0 ≤ (mi 72).toInt; have k_0 : ((-1) : Int32).toInt = -1 := (by decide +kernel); omega), (by show (mi 72).toInt ≤ 200; have k_0 : ((-1) : Int32).toInt = -1 := (by decide +kernel); omega), (by show 0 ≤ (mi 79).toInt; have k_0 : ((-1) : Int32).toInt = -1 := (by decide +kernel); omega), (by show (mi 79).toInt ≤ 8; have k_0 : ((-1) : Int32).toInt = -1 := (by decide +kernel); omega), a_p_from, a_p_to, a_t_marks, a_u_marks⟩ (Nat.le_of_ble_eq_true rfl) (Nat.le_of_ble_eq_true rfl) dX11_run_34
      · skip
        have hc_6 := nltE (a := z_what.toInt) (b := 0) rfl (by decide +kernel) c_6
        refine lv_iload_n (pc := 15) E.1 E.2.1 dX11_run_15 rfl (lv_at hl3 2 rfl) ?_
        refine lv_iconst (pc := 16) (v := 3) E.1 E.2.1 dX11_run_16 (by decide +kernel) ?_
        refine lv_icmp_gt (pc := 17) (tgt := 33) E.1 E.2.1 dX11_run_17 (by decide) (fun c_7 => ?_) (fun c_7 => ?_)
        · skip
          have hc_7 := ltE (a := 3) (b := z_what.toInt) (by decide +kernel) rfl c_7
          refine lv_iconst (pc := 33) (v := (-1)) E.1 E.2.1 dX11_run_33 (by decide +kernel) ?_
          exact em_i (w1 := (fun (u : (Nat → Int32) × (Nat → Nat → Int32) × (Nat → Nat → Int64)) => (WZ_Mrun cI cJ mv mr u.1 u.2.1 u.2.2))) E hr hlk (mi, mf, mg) hw1 ⟨(by show 0 ≤ (mi 1).toInt; have k_0 : ((-1) : Int32).toInt = -1 := (by decide +kernel); omega), (by show (mi 1).toInt ≤ 5; have k_0 : ((-1) : Int32).toInt = -1 := (by decide +kernel); omega), (by show 0 ≤ (mi 2).toInt; have k_0 : ((-1) : Int32).toInt = -1 := (by decide +kernel); omega), (by show (mi 2).toInt ≤ 6; have k_0 : ((-1) : Int32).toInt = -1 := (by decide +kernel); omega), (by show 0 ≤ (mi 24).toInt; have k_0 : ((-1) : Int32).toInt = -1 := (by decide +kernel); omega), (by show (mi 24).toInt ≤ 200; have k_0 : ((-1) : Int32).toInt = -1 := (by decide +kernel); omega), (by show 0 ≤ (mi 32).toInt; have k_0 : ((-1) : Int32).toInt = -1 := (by decide +kernel); omega), (by show (mi 32).toInt ≤ 10; have k_0 : ((-1) : Int32).toInt = -1 := (by decide +kernel); omega), (by show 0 ≤ (mi 40).toInt; have k_0 : ((-1) : Int32).toInt = -1 := (by decide +kernel); omega), (by show (mi 40).toInt ≤ 40; have k_0 : ((-1) : Int32).toInt = -1 := (by decide +kernel); omega), (by show 0 ≤ (mi 49).toInt; have k_0 : ((-1) : Int32).toInt = -1 := (by decide +kernel); omega), (by show (mi 49).toInt ≤ 10; have k_0 : ((-1) : Int32).toInt = -1 := (by decide +kernel); omega), (by show 0 ≤ (mi 72).toInt; have k_0 : ((-1) : Int32).toInt = -1 := (by decide +kernel); omega), (by show (mi 72).toInt ≤ 200; have k_0 : ((-1) : Int32).toInt = -1 := (by decide +kernel); omega), (by show 0 ≤ (mi 79).toInt; have k_0 : ((-1) : Int32).toInt = -1 := (by decide +kernel); omega), (by show (mi 79).toInt ≤ 8; have k_0 : ((-1) : Int32).toInt = -1 := (by decide +kernel); omega), a_p_from, a_p_to, a_t_marks, a_u_marks⟩ (Nat.le_of_ble_eq_true rfl) (Nat.le_of_ble_eq_true rfl) dX11_run_34
        · skip
          have hc_7 := nltE (a := 3) (b := z_what.toInt) (by decide +kernel) rfl c_7
          refine lv_aload_n (pc := 20) E.1 E.2.1 dX11_run_20 rfl (lv_at hl3 0 rfl) ?_
          refine x_get (pc := 21) (T := TX11) (N := 13) (ci := 11) (v := .ref (mr 3)) E hw1 inX11 0 0 q_606 rfl rfl (by decide) rfl rfl dX11_run_21 ?_
          refine x_get (pc := 24) (T := TX10) (N := 17) (ci := 10) (v := .ref (mr 26)) E hw1 inX10 1 1 q_463 rfl rfl (by decide) rfl rfl dX11_run_24 ?_
          refine x_get (pc := 27) (T := TX1) (N := 9) (ci := 1) (v := .int (mi 32)) E hw1 inX1 13 5 q_282 rfl rfl (by decide) rfl rfl dX11_run_27 ?_
          refine lv_if_ne (pc := 30) (tgt := 35) E.1 E.2.1 dX11_run_30 (by decide) (fun c_8 => ?_) (fun c_8 => ?_)
          · skip
            have hc_8 := neE (a := (mi 32).toInt) (b := 0) rfl (by decide +kernel) c_8
            refine lv_aload_n (pc := 35) E.1 E.2.1 dX11_run_35 rfl (lv_at hl3 0 rfl) ?_
            refine x_get (pc := 36) (T := TX11) (N := 13) (ci := 11) (v := .ref (mr 80)) E hw1 inX11 0 7 q_613 rfl rfl (by decide) rfl rfl dX11_run_36 ?_
            refine lv_aload_n (pc := 39) E.1 E.2.1 dX11_run_39 rfl (lv_at hl3 0 rfl) ?_
            refine x_get (pc := 40) (T := TX11) (N := 13) (ci := 11) (v := .ref (mr 3)) E hw1 inX11 0 0 q_606 rfl rfl (by decide) rfl rfl dX11_run_40 ?_
            refine x_get (pc := 43) (T := TX10) (N := 17) (ci := 10) (v := .ref (mr 13)) E hw1 inX10 1 0 q_458 rfl rfl (by decide) rfl rfl dX11_run_43 ?_
            refine cq_v (pc := 46) (ws' := (fun (u : (Nat → Int32) × (Nat → Int32) × (Nat → Int32) × (Nat → Int32) × (Nat → Int32) × Int32 × Int32 × Int32 × Int32 × Int32 × Int32 × Int32) => (WZ_Mrun cI cJ mv mr (upd (upd (upd (upd (upd (upd (upd mi 86 u.2.2.2.2.2.1) 87 u.2.2.2.2.2.2.1) 88 u.2.2.2.2.2.2.2.1) 89 u.2.2.2.2.2.2.2.2.1) 90 u.2.2.2.2.2.2.2.2.2.1) 91 u.2.2.2.2.2.2.2.2.2.2.1) 92 u.2.2.2.2.2.2.2.2.2.2.2) (va_up (va_up (va_up (va_up (va_up mf 81 u.1) 82 u.2.1) 83 u.2.2.1) 84 u.2.2.2.1) 85 u.2.2.2.2.1) mg))) hw1 [51, 52, 53, 54, 55, 56, 7, 8, 9, 10, 11, 12] [0, 1, 2, 3, 4, 5, 6, 13, 14, 15, 16, 17, 18, 19, 20, 21, 22, 23, 24, 25, 26, 27, 28, 29, 30, 31, 32, 33, 34, 35, 36, 37, 38, 39, 40, 41, 42, 43, 44, 45, 46, 47, 48, 49, 50] [0, 1, 2, 3, 4, 5, 6, 51, 52, 53, 54, 55, 56, 7, 8, 9, 10, 11, 12, 13, 14, 15, 16, 17, 18, 19, 20, 21, 22, 23, 24, 25, 26, 27, 28, 29, 30, 31, 32, 33, 34, 35, 36, 37, 38, 39, 40, 41, 42, 43, 44, 45, 46, 47, 48, 49, 50] rfl rfl (by decide) (by decide) (fun _ => rfl) (by decide) (rn_V (As := [.ref (mr 13)]) (rest := []) E hw1 (t_nowTake l D cI cJ _ (ixf [80, 81, 82, 83, 84, 85, 86, 87, 88, 89, 90, 91, 92, 13, 14, 15, 16, 17, 18, 19, 20, 21, 22, 23, 24, 25] mr) (ixf [80, 81, 82, 83, 84, 85, 86, 87, 88, 89, 90, 91, 92, 13, 14, 15, 16, 17, 18, 19, 20, 21, 22, 23, 24, 25] mi) (ixf [80, 81, 82, 83, 84, 85, 86, 87, 88, 89, 90, 91, 92, 13, 14, 15, 16, 17, 18, 19, 20, 21, 22, 23, 24, 25] mf) (ixf [80, 81, 82, 83, 84, 85, 86, 87, 88, 89, 90, 91, 92, 13, 14, 15, 16, 17, 18, 19, 20, 21, 22, 23, 24, 25] mg) ) (gdV q_999 q_1000 q_1001 q_153 q_1002) hdV_X4_take ⟨rfl, rfl⟩ ⟨(Nat.le_of_ble_eq_true rfl), (Nat.le_of_ble_eq_true rfl)⟩ ⟨(Nat.le_of_ble_eq_true rfl), (Nat.le_of_ble_eq_true rfl)⟩ xT_b xT_at 51 4 rfl rfl rfl [51, 52, 53, 54, 55, 56, 7, 8, 9, 10, 11, 12] rfl (by decide) rfl hl3.1 rfl (Nat.le_of_ble_eq_true rfl) dX11_run_46) (fun u_9 H1 locs hp hw11 => ?_)
            obtain ⟨goil_12, gowed_13, ghad_14, glast_15, gdone_16, nspoilt_17, nlamp_18, nnight_19, nsnow_20, ndraws_21, ngone_22, nlines_23⟩ := u_9
            generalize H1 = H at hw11 ⊢
            have hw24 : WD D A s.heap (WZ_Mrun cI cJ mv mr (upd (upd (upd (upd (upd (upd (upd mi 86 nspoilt_17) 87 nlamp_18) 88 nnight_19) 89 nsnow_20) 90 ndraws_21) 91 ngone_22) 92 nlines_23) (va_up (va_up (va_up (va_up (va_up mf 81 goil_12) 82 gowed_13) 83 ghad_14) 84 glast_15) 85 gdone_16) mg) H locs := hw11
            obtain ⟨hp_25, hp_26, hp_27, hp_28, hp_29, hp_30, hp_31⟩ := hp
            have hp_25 : nspoilt_17.toInt = (mi 19).toInt := hp_25
            have hp_26 : nlamp_18.toInt = (mi 20).toInt := hp_26
            have hp_27 : nnight_19.toInt = (mi 21).toInt := hp_27
            have hp_28 : nsnow_20.toInt = (mi 22).toInt := hp_28
            have hp_29 : ndraws_21.toInt = (mi 23).toInt := hp_29
            have hp_30 : ngone_22.toInt = (mi 24).toInt := hp_30
            have hp_31 : nlines_23.toInt = (mi 25).toInt := hp_31
            refine lv_aload_n (pc := 49) E.1 E.2.1 dX11_run_49 rfl (lv_at hl3 0 rfl) ?_
            refine x_get (pc := 50) (T := TX11) (N := 13) (ci := 11) (v := .ref (mr 80)) E hw24 inX11 0 7 q_613 rfl rfl (by decide) rfl rfl dX11_run_50 ?_
            refine x_get (pc := 53) (T := TX4) (N := 12) (ci := 4) (v := .int nspoilt_17) E hw24 inX4 51 5 q_212 rfl rfl (by decide) rfl rfl dX11_run_53 ?_
            refine lv_istore_n (pc := 56) (lv' := [(3, .int nspoilt_17), (0, .ref (mr 0)), (1, .int z_n), (2, .int z_what)]) E.1 E.2.1 dX11_run_56 rfl hl3 (by decide) rfl (fun ls hl32 => ?_)
            refine lv_iconst (pc := 57) (v := 0) E.1 E.2.1 dX11_run_57 (by decide +kernel) ?_
            refine lv_istore (pc := 58) (lv' := [(4, .int 0), (3, .int nspoilt_17), (0, .ref (mr 0)), (1, .int z_n), (2, .int z_what)]) E.1 E.2.1 dX11_run_58 hl32 (by decide) rfl (fun ls hl33 => ?_)
            refine lv_iconst (pc := 60) (v := (-1)) E.1 E.2.1 dX11_run_60 (by decide +kernel) ?_
            refine lv_istore (pc := 61) (lv' := [(5, .int (-1)), (4, .int 0), (3, .int nspoilt_17), (0, .ref (mr 0)), (1, .int z_n), (2, .int z_what)]) E.1 E.2.1 dX11_run_61 hl33 (by decide) rfl (fun ls hl34 => ?_)
            refine lv_iconst (pc := 63) (v := 0) E.1 E.2.1 dX11_run_63 (by decide +kernel) ?_
            refine lv_istore (pc := 64) (lv' := [(6, .int 0), (5, .int (-1)), (4, .int 0), (3, .int nspoilt_17), (0, .ref (mr 0)), (1, .int z_n), (2, .int z_what)]) E.1 E.2.1 dX11_run_64 hl34 (by decide) rfl (fun ls hl35 => ?_)
            have loop_36 : ∀ (k : Nat) (x_37 : Int32) (x_38 : Int32) (x_39 : Int32) (M_40 : Nat → Int32) (M_41 : Nat → Nat → Int32) (M_42 : Nat → Nat → Int64) (H : Heap) (locs : List Loc) (ls : Array Slot), (0 ≤ (M_40 1).toInt ∧ (M_40 1).toInt ≤ 5) ∧ (0 ≤ (M_40 2).toInt ∧ (M_40 2).toInt ≤ 6) ∧ (0 ≤ (M_40 24).toInt ∧ (M_40 24).toInt ≤ 200) ∧ (0 ≤ (M_40 32).toInt ∧ (M_40 32).toInt ≤ 10) ∧ (0 ≤ (M_40 40).toInt ∧ (M_40 40).toInt ≤ 40) ∧ (0 ≤ (M_40 49).toInt ∧ (M_40 49).toInt ≤ 10) ∧ (0 ≤ (M_40 72).toInt ∧ (M_40 72).toInt ≤ 200) ∧ (0 ≤ (M_40 79).toInt ∧ (M_40 79).toInt ≤ 8) ∧ (0 ≤ (M_40 91).toInt ∧ (M_40 91).toInt ≤ 200) ∧ (0 ≤ x_39.toInt) ∧ (x_39.toInt ≤ z_n.toInt) ∧ (0 ≤ x_37.toInt) ∧ (x_37.toInt ≤ x_39.toInt) ∧ p9 (M_41 36) ∧ p9 (M_41 37) ∧ m4 (M_41 53) ∧ m4 (M_41 63) → z_n.toInt - x_39.toInt < (k : Int) → WD D A s.heap (WZ_Mrun cI cJ mv mr M_40 M_41 M_42) H locs → lv_has ls 7 [(6, .int x_39), (5, .int x_38), (4, .int x_37), (3, .int nspoilt_17), (0, .ref (mr 0)), (1, .int z_n), (2, .int z_what)] → W p l e ({ frames := 11, cells := 0, slots := 0, locals := 263 } : Room) s m ([.ref (mr 0), .int z_n, .int z_what] : List Value).toArray below meth c H locs 0 0 (MQ below (va_Qi (fun (r : Int32) (u : (Nat → Int32) × (Nat → Nat → Int32) × (Nat → Nat → Int64)) => (0 ≤ (u.1 1).toInt) ∧ ((u.1 1).toInt ≤ 5) ∧ (0 ≤ (u.1 2).toInt) ∧ ((u.1 2).toInt ≤ 6) ∧ (0 ≤ (u.1 24).toInt) ∧ ((u.1 24).toInt ≤ 200) ∧ (0 ≤ (u.1 32).toInt) ∧ ((u.1 32).toInt ≤ 10) ∧ (0 ≤ (u.1 40).toInt) ∧ ((u.1 40).toInt ≤ 40) ∧ (0 ≤ (u.1 49).toInt) ∧ ((u.1 49).toInt ≤ 10) ∧ (0 ≤ (u.1 72).toInt) ∧ ((u.1 72).toInt ≤ 200) ∧ (0 ≤ (u.1 79).toInt) ∧ ((u.1 79).toInt ≤ 8) ∧ (p9 (u.2.1 36)) ∧ (p9 (u.2.1 37)) ∧ (m4 (u.2.1 53)) ∧ (m4 (u.2.1 63))) (fun u => QW D cI cJ A ((fun (u : (Nat → Int32) × (Nat → Nat → Int32) × (Nat → Nat → Int64)) => (WZ_Mrun cI cJ mv mr u.1 u.2.1 u.2.2)) u)) A) ([.ref (mr 0), .int z_n, .int z_what] : List Value).toArray s 0 0 A) (F0 m 66 ls []) := by
              intro k
              induction k with
              | zero =>
                intro x_37 x_38 x_39 M_40 M_41 M_42 _ _ _ hinv hm
                obtain ⟨hi_42_0, hi_42_1, hi_42_2, hi_42_3, hi_42_4, hi_42_5, hi_42_6, hi_42_7, hi_42_8, hi_42_9, hi_42_10, hi_42_11, hi_42_12, hi_42_13, hi_42_14, hi_42_15, hi_42_16⟩ := hinv
                exact absurd hm (by omega)
              | succ k ih_43 =>
                intro x_37 x_38 x_39 M_40 M_41 M_42 H locs ls hinv hm hw44 hl45
                obtain ⟨hi_42_0, hi_42_1, hi_42_2, hi_42_3, hi_42_4, hi_42_5, hi_42_6, hi_42_7, hi_42_8, hi_42_9, hi_42_10, hi_42_11, hi_42_12, hi_42_13, hi_42_14, hi_42_15, hi_42_16⟩ := hinv
                refine lv_iload (pc := 66) E.1 E.2.1 dX11_run_66 (lv_at hl45 0 rfl) ?_
                refine lv_iload_n (pc := 68) E.1 E.2.1 dX11_run_68 rfl (lv_at hl45 5 rfl) ?_
                refine lv_icmp_ge (pc := 69) (tgt := 118) E.1 E.2.1 dX11_run_69 (by decide) (fun c_46 => ?_) (fun c_46 => ?_)
                · skip
                  have hc_46 := leE (a := z_n.toInt) (b := x_39.toInt) rfl rfl c_46
                  refine lv_iload_n (pc := 118) E.1 E.2.1 dX11_run_118 rfl (lv_at hl45 6 rfl) ?_
                  rcases swt (x := z_what) 0 2 with hsw_47 | ⟨hsw_47k, hsw_471, hsw_472, hsw_47⟩
                  · skip
                    refine lv_tableOut (pc := 119) (tgt := 167) E.1 E.2.1 dX11_run_119 hsw_47 (by decide) ?_
                    refine lv_iload (pc := 167) E.1 E.2.1 dX11_run_167 (lv_at hl45 1 rfl) ?_
                    exact em_i (w1 := (fun (u : (Nat → Int32) × (Nat → Nat → Int32) × (Nat → Nat → Int64)) => (WZ_Mrun cI cJ mv mr u.1 u.2.1 u.2.2))) E hr hlk (M_40, M_41, M_42) hw44 ⟨(by show 0 ≤ (M_40 1).toInt; omega), (by show (M_40 1).toInt ≤ 5; omega), (by show 0 ≤ (M_40 2).toInt; omega), (by show (M_40 2).toInt ≤ 6; omega), (by show 0 ≤ (M_40 24).toInt; omega), (by show (M_40 24).toInt ≤ 200; omega), (by show 0 ≤ (M_40 32).toInt; omega), (by show (M_40 32).toInt ≤ 10; omega), (by show 0 ≤ (M_40 40).toInt; omega), (by show (M_40 40).toInt ≤ 40; omega), (by show 0 ≤ (M_40 49).toInt; omega), (by show (M_40 49).toInt ≤ 10; omega), (by show 0 ≤ (M_40 72).toInt; omega), (by show (M_40 72).toInt ≤ 200; omega), (by show 0 ≤ (M_40 79).toInt; omega), (by show (M_40 79).toInt ≤ 8; omega), hi_42_13, hi_42_14, hi_42_15, hi_42_16⟩ (Nat.le_of_ble_eq_true rfl) (Nat.le_of_ble_eq_true rfl) dX11_run_169
                  · skip
                    rcases (show hsw_47k = 0 ∨ hsw_47k = 1 ∨ hsw_47k = 2 from by omega) with rfl | rfl | rfl
                    · skip
                      have hsw_47v : z_what.toInt = 0 := hsw_47
                      have hsw_47e : z_what = 0 := Int32.toInt_inj.mp (by rw [hsw_47]; decide +kernel)
                      refine lv_tableIn (pc := 119) (off := 25) (tgt := 144) E.1 E.2.1 dX11_run_119 (by rw [hsw_47e]; decide +kernel) (by rw [hsw_47e]; decide +kernel) (by rw [hsw_47e]; decide +kernel) (by decide) ?_
                      refine lv_aload_n (pc := 144) E.1 E.2.1 dX11_run_144 rfl (lv_at hl45 4 rfl) ?_
                      refine x_get (pc := 145) (T := TX11) (N := 13) (ci := 11) (v := .ref (mr 80)) E hw44 inX11 0 7 q_613 rfl rfl (by decide) rfl rfl dX11_run_145 ?_
                      refine x_get (pc := 148) (T := TX4) (N := 12) (ci := 4) (v := .int (M_40 87)) E hw44 inX4 51 6 q_216 rfl rfl (by decide) rfl rfl dX11_run_148 ?_
                      exact em_i (w1 := (fun (u : (Nat → Int32) × (Nat → Nat → Int32) × (Nat → Nat → Int64)) => (WZ_Mrun cI cJ mv mr u.1 u.2.1 u.2.2))) E hr hlk (M_40, M_41, M_42) hw44 ⟨(by show 0 ≤ (M_40 1).toInt; omega), (by show (M_40 1).toInt ≤ 5; omega), (by show 0 ≤ (M_40 2).toInt; omega), (by show (M_40 2).toInt ≤ 6; omega), (by show 0 ≤ (M_40 24).toInt; omega), (by show (M_40 24).toInt ≤ 200; omega), (by show 0 ≤ (M_40 32).toInt; omega), (by show (M_40 32).toInt ≤ 10; omega), (by show 0 ≤ (M_40 40).toInt; omega), (by show (M_40 40).toInt ≤ 40; omega), (by show 0 ≤ (M_40 49).toInt; omega), (by show (M_40 49).toInt ≤ 10; omega), (by show 0 ≤ (M_40 72).toInt; omega), (by show (M_40 72).toInt ≤ 200; omega), (by show 0 ≤ (M_40 79).toInt; omega), (by show (M_40 79).toInt ≤ 8; omega), hi_42_13, hi_42_14, hi_42_15, hi_42_16⟩ (Nat.le_of_ble_eq_true rfl) (Nat.le_of_ble_eq_true rfl) dX11_run_151
                    · skip
                      have hsw_47v : z_what.toInt = 1 := hsw_47
                      have hsw_47e : z_what = 1 := Int32.toInt_inj.mp (by rw [hsw_47]; decide +kernel)
                      refine lv_tableIn (pc := 119) (off := 33) (tgt := 152) E.1 E.2.1 dX11_run_119 (by rw [hsw_47e]; decide +kernel) (by rw [hsw_47e]; decide +kernel) (by rw [hsw_47e]; decide +kernel) (by decide) ?_
                      refine lv_iload (pc := 152) E.1 E.2.1 dX11_run_152 (lv_at hl45 2 rfl) ?_
                      exact em_i (w1 := (fun (u : (Nat → Int32) × (Nat → Nat → Int32) × (Nat → Nat → Int64)) => (WZ_Mrun cI cJ mv mr u.1 u.2.1 u.2.2))) E hr hlk (M_40, M_41, M_42) hw44 ⟨(by show 0 ≤ (M_40 1).toInt; omega), (by show (M_40 1).toInt ≤ 5; omega), (by show 0 ≤ (M_40 2).toInt; omega), (by show (M_40 2).toInt ≤ 6; omega), (by show 0 ≤ (M_40 24).toInt; omega), (by show (M_40 24).toInt ≤ 200; omega), (by show 0 ≤ (M_40 32).toInt; omega), (by show (M_40 32).toInt ≤ 10; omega), (by show 0 ≤ (M_40 40).toInt; omega), (by show (M_40 40).toInt ≤ 40; omega), (by show 0 ≤ (M_40 49).toInt; omega), (by show (M_40 49).toInt ≤ 10; omega), (by show 0 ≤ (M_40 72).toInt; omega), (by show (M_40 72).toInt ≤ 200; omega), (by show 0 ≤ (M_40 79).toInt; omega), (by show (M_40 79).toInt ≤ 8; omega), hi_42_13, hi_42_14, hi_42_15, hi_42_16⟩ (Nat.le_of_ble_eq_true rfl) (Nat.le_of_ble_eq_true rfl) dX11_run_154
                    · skip
                      have hsw_47v : z_what.toInt = 2 := hsw_47
                      have hsw_47e : z_what = 2 := Int32.toInt_inj.mp (by rw [hsw_47]; decide +kernel)
                      refine lv_tableIn (pc := 119) (off := 36) (tgt := 155) E.1 E.2.1 dX11_run_119 (by rw [hsw_47e]; decide +kernel) (by rw [hsw_47e]; decide +kernel) (by rw [hsw_47e]; decide +kernel) (by decide) ?_
                      refine lv_aload_n (pc := 155) E.1 E.2.1 dX11_run_155 rfl (lv_at hl45 4 rfl) ?_
                      refine x_get (pc := 156) (T := TX11) (N := 13) (ci := 11) (v := .ref (mr 80)) E hw44 inX11 0 7 q_613 rfl rfl (by decide) rfl rfl dX11_run_156 ?_
                      refine x_get (pc := 159) (T := TX4) (N := 12) (ci := 4) (v := .int (M_40 86)) E hw44 inX4 51 5 q_212 rfl rfl (by decide) rfl rfl dX11_run_159 ?_
                      refine lv_iload_n (pc := 162) E.1 E.2.1 dX11_run_162 rfl (lv_at hl45 3 rfl) ?_
                      refine lv_iconst (pc := 163) (v := (-1)) E.1 E.2.1 dX11_run_163 (by decide +kernel) ?_
                      refine lv_ixor (pc := 164) E.1 E.2.1 dX11_run_164 ?_
                      refine lv_topi (fun v_48 ev_48 => ?_)
                      refine lv_iand (pc := 165) E.1 E.2.1 dX11_run_165 ?_
                      refine lv_topi (fun v_49 ev_49 => ?_)
                      exact em_i (w1 := (fun (u : (Nat → Int32) × (Nat → Nat → Int32) × (Nat → Nat → Int64)) => (WZ_Mrun cI cJ mv mr u.1 u.2.1 u.2.2))) E hr hlk (M_40, M_41, M_42) hw44 ⟨(by show 0 ≤ (M_40 1).toInt; omega), (by show (M_40 1).toInt ≤ 5; omega), (by show 0 ≤ (M_40 2).toInt; omega), (by show (M_40 2).toInt ≤ 6; omega), (by show 0 ≤ (M_40 24).toInt; omega), (by show (M_40 24).toInt ≤ 200; omega), (by show 0 ≤ (M_40 32).toInt; omega), (by show (M_40 32).toInt ≤ 10; omega), (by show 0 ≤ (M_40 40).toInt; omega), (by show (M_40 40).toInt ≤ 40; omega), (by show 0 ≤ (M_40 49).toInt; omega), (by show (M_40 49).toInt ≤ 10; omega), (by show 0 ≤ (M_40 72).toInt; omega), (by show (M_40 72).toInt ≤ 200; omega), (by show 0 ≤ (M_40 79).toInt; omega), (by show (M_40 79).toInt ≤ 8; omega), hi_42_13, hi_42_14, hi_42_15, hi_42_16⟩ (Nat.le_of_ble_eq_true rfl) (Nat.le_of_ble_eq_true rfl) dX11_run_166
                · skip
                  have hc_46 := nleE (a := z_n.toInt) (b := x_39.toInt) rfl rfl c_46
                  refine lv_aload_n (pc := 72) E.1 E.2.1 dX11_run_72 rfl (lv_at hl45 4 rfl) ?_
                  refine x_get (pc := 73) (T := TX11) (N := 13) (ci := 11) (v := .ref (mr 3)) E hw44 inX11 0 0 q_606 rfl rfl (by decide) rfl rfl dX11_run_73 ?_
                  refine lv_aload_n (pc := 76) E.1 E.2.1 dX11_run_76 rfl (lv_at hl45 4 rfl) ?_
                  refine x_get (pc := 77) (T := TX11) (N := 13) (ci := 11) (v := .ref (mr 80)) E hw44 inX11 0 7 q_613 rfl rfl (by decide) rfl rfl dX11_run_77 ?_
                  refine lv_iconst (pc := 80) (v := 0) E.1 E.2.1 dX11_run_80 (by decide +kernel) ?_
                  refine cq_i (pc := 81) (ws' := (fun (u : (Nat → Int32) × (Nat → Int32) × (Nat → Int32) × (Nat → Int32) × (Nat → Int32) × (Nat → Int32) × (Nat → Int32) × (Nat → Int32) × (Nat → Int32) × (Nat → Int32) × (Nat → Int32) × Int32 × Int32 × Int32 × Int32 × Int32 × Int32 × Int32) => (WZ_Mrun cI cJ mv mr (upd (upd (upd (upd (upd (upd (upd M_40 86 u.2.2.2.2.2.2.2.2.2.2.2.1) 87 u.2.2.2.2.2.2.2.2.2.2.2.2.2.2.2.2.1) 88 u.2.2.2.2.2.2.2.2.2.2.2.2.2.2.2.2.2) 89 u.2.2.2.2.2.2.2.2.2.2.2.2.2.2.1) 90 u.2.2.2.2.2.2.2.2.2.2.2.2.2.1) 91 u.2.2.2.2.2.2.2.2.2.2.2.2.2.2.2.1) 92 u.2.2.2.2.2.2.2.2.2.2.2.2.1) (va_up (va_up (va_up (va_up (va_up (va_up (va_up (va_up (va_up (va_up (va_up M_41 4 u.2.2.2.2.2.1) 9 u.1) 41 u.2.1) 42 u.2.2.1) 55 u.2.2.2.1) 65 u.2.2.2.2.1) 81 u.2.2.2.2.2.2.1) 82 u.2.2.2.2.2.2.2.2.2.2.1) 83 u.2.2.2.2.2.2.2.2.1) 84 u.2.2.2.2.2.2.2.2.2.1) 85 u.2.2.2.2.2.2.2.1) M_42))) hw44 [1, 2, 3, 4, 5, 6, 7, 8, 9, 10, 11, 12, 13, 14, 15, 16, 17, 18, 19, 20, 21, 22, 23, 24, 25, 26, 27, 28, 29, 30, 31, 32, 33, 34, 35, 36, 37, 38, 39, 40, 41, 42, 43, 44, 45, 46, 47, 48, 49, 50, 51, 52, 53, 54, 55, 56] [0] [0, 1, 2, 3, 4, 5, 6, 7, 8, 9, 10, 11, 12, 13, 14, 15, 16, 17, 18, 19, 20, 21, 22, 23, 24, 25, 26, 27, 28, 29, 30, 31, 32, 33, 34, 35, 36, 37, 38, 39, 40, 41, 42, 43, 44, 45, 46, 47, 48, 49, 50, 51, 52, 53, 54, 55, 56] rfl rfl (by decide) (by decide) (fun _ => rfl) (by decide) (rn_V (As := [.ref (mr 80), .int 0]) (rest := []) E hw44 (t_passNights l D cI cJ _ (ixf [3, 4, 5, 6, 7, 8, 9, 10, 11, 12, 13, 14, 15, 16, 17, 18, 19, 20, 21, 22, 23, 24, 25, 26, 27, 28, 29, 30, 31, 32, 33, 34, 35, 36, 37, 38, 39, 40, 41, 42, 43, 44, 45, 46, 47, 48, 49, 50, 51, 52, 53, 54, 55, 56, 57, 58, 59, 60, 61, 62, 63, 64, 65, 66, 67, 68, 69, 70, 71, 72, 73, 74, 75, 76, 77, 78, 79, 80, 81, 82, 83, 84, 85, 86, 87, 88, 89, 90, 91, 92] mr) (ixf [3, 4, 5, 6, 7, 8, 9, 10, 11, 12, 13, 14, 15, 16, 17, 18, 19, 20, 21, 22, 23, 24, 25, 26, 27, 28, 29, 30, 31, 32, 33, 34, 35, 36, 37, 38, 39, 40, 41, 42, 43, 44, 45, 46, 47, 48, 49, 50, 51, 52, 53, 54, 55, 56, 57, 58, 59, 60, 61, 62, 63, 64, 65, 66, 67, 68, 69, 70, 71, 72, 73, 74, 75, 76, 77, 78, 79, 80, 81, 82, 83, 84, 85, 86, 87, 88, 89, 90, 91, 92] M_40) (ixf [3, 4, 5, 6, 7, 8, 9, 10, 11, 12, 13, 14, 15, 16, 17, 18, 19, 20, 21, 22, 23, 24, 25, 26, 27, 28, 29, 30, 31, 32, 33, 34, 35, 36, 37, 38, 39, 40, 41, 42, 43, 44, 45, 46, 47, 48, 49, 50, 51, 52, 53, 54, 55, 56, 57, 58, 59, 60, 61, 62, 63, 64, 65, 66, 67, 68, 69, 70, 71, 72, 73, 74, 75, 76, 77, 78, 79, 80, 81, 82, 83, 84, 85, 86, 87, 88, 89, 90, 91, 92] M_41) (ixf [3, 4, 5, 6, 7, 8, 9, 10, 11, 12, 13, 14, 15, 16, 17, 18, 19, 20, 21, 22, 23, 24, 25, 26, 27, 28, 29, 30, 31, 32, 33, 34, 35, 36, 37, 38, 39, 40, 41, 42, 43, 44, 45, 46, 47, 48, 49, 50, 51, 52, 53, 54, 55, 56, 57, 58, 59, 60, 61, 62, 63, 64, 65, 66, 67, 68, 69, 70, 71, 72, 73, 74, 75, 76, 77, 78, 79, 80, 81, 82, 83, 84, 85, 86, 87, 88, 89, 90, 91, 92] M_42) (vl [mv 9]) (by show 0 ≤ (M_40 32).toInt ∧ (M_40 32).toInt ≤ 10; omega) (by show 0 ≤ (M_40 40).toInt ∧ (M_40 40).toInt ≤ 40; omega) (by show 0 ≤ (M_40 49).toInt ∧ (M_40 49).toInt ≤ 10; omega) (by show 0 ≤ (M_40 91).toInt ∧ (M_40 91).toInt ≤ 200; omega) (by show 0 ≤ (M_40 72).toInt ∧ (M_40 72).toInt ≤ 200; omega) hi_42_13 hi_42_14 hi_42_15 hi_42_16) (gdV q_1004 q_1005 q_1006 q_152 q_1007) hdV_X10_passNight ⟨rfl, rfl⟩ ⟨(Nat.le_of_ble_eq_true rfl), (Nat.le_of_ble_eq_true rfl)⟩ ⟨(Nat.le_of_ble_eq_true rfl), (Nat.le_of_ble_eq_true rfl)⟩ xT_b xT_at 1 10 rfl rfl rfl [1, 2, 3, 4, 5, 6, 7, 8, 9, 10, 11, 12, 13, 14, 15, 16, 17, 18, 19, 20, 21, 22, 23, 24, 25, 26, 27, 28, 29, 30, 31, 32, 33, 34, 35, 36, 37, 38, 39, 40, 41, 42, 43, 44, 45, 46, 47, 48, 49, 50, 51, 52, 53, 54, 55, 56] rfl (by decide) rfl hl45.1 rfl (Nat.le_of_ble_eq_true rfl) dX11_run_81) (fun r_51 u_50 H1 locs hp hw52 => ?_)
                  obtain ⟨greadings_53, gpmeasured_54, gpmeasuredIn_55, gtstack_56, gustack_57, gbook_58, gsoil_59, gsdone_60, gshad_61, gslast_62, gsowed_63, nsspoilt_64, nslines_65, nsdraws_66, nssnow_67, nsgone_68, nslamp_69, nsnight_70⟩ := u_50
                  generalize H1 = H at hw52 ⊢
                  have hw71 : WD D A s.heap (WZ_Mrun cI cJ mv mr (upd (upd (upd (upd (upd (upd (upd M_40 86 nsspoilt_64) 87 nslamp_69) 88 nsnight_70) 89 nssnow_67) 90 nsdraws_66) 91 nsgone_68) 92 nslines_65) (va_up (va_up (va_up (va_up (va_up (va_up (va_up (va_up (va_up (va_up (va_up M_41 4 gbook_58) 9 greadings_53) 41 gpmeasured_54) 42 gpmeasuredIn_55) 55 gtstack_56) 65 gustack_57) 81 gsoil_59) 82 gsowed_63) 83 gshad_61) 84 gslast_62) 85 gsdone_60) M_42) H locs := hw52
                  obtain ⟨hp_72, hp_73, hp_74, hp_75⟩ := hp
                  have hp_72 : 0 ≤ r_51.toInt := hp_72
                  have hp_73 : r_51.toInt ≤ 1 := hp_73
                  have hp_74 : 0 ≤ nsgone_68.toInt := hp_74
                  have hp_75 : nsgone_68.toInt ≤ 200 := hp_75
                  refine lv_if_ne (pc := 84) (tgt := 90) E.1 E.2.1 dX11_run_84 (by decide) (fun c_76 => ?_) (fun c_76 => ?_)
                  · skip
                    have hc_76 := neE (a := r_51.toInt) (b := 0) rfl (by decide +kernel) c_76
                    refine lv_iload (pc := 90) E.1 E.2.1 dX11_run_90 (lv_at hl45 1 rfl) ?_
                    refine lv_iconst (pc := 92) (v := (-1)) E.1 E.2.1 dX11_run_92 (by decide +kernel) ?_
                    refine lv_icmp_ne (pc := 93) (tgt := 112) E.1 E.2.1 dX11_run_93 (by decide) (fun c_77 => ?_) (fun c_77 => ?_)
                    · skip
                      have hc_77 := neE (a := x_38.toInt) (b := (-1)) rfl (by decide +kernel) c_77
                      obtain ⟨v_78, ev_78⟩ : ∃ z : Int32, x_39 + Int32.ofInt (1) = z := ⟨_, rfl⟩
                      have hv_78 : v_78.toInt = x_39.toInt + (1) := by rw [← ev_78]; exact incE rfl (by decide) (by omega)
                      refine lv_iinc (pc := 112) (v := v_78) (lv' := [(6, .int v_78), (5, .int x_38), (4, .int x_37), (3, .int nspoilt_17), (0, .ref (mr 0)), (1, .int z_n), (2, .int z_what)]) E.1 E.2.1 dX11_run_112 hl45 (k := 0) rfl ev_78 (by decide) rfl (fun ls hl79 => ?_)
                      refine lv_goto (pc := 115) (tgt := 66) E.1 E.2.1 dX11_run_115 (by decide) ?_
                      exact ih_43 x_37 x_38 v_78 (upd (upd (upd (upd (upd (upd (upd M_40 86 nsspoilt_64) 87 nslamp_69) 88 nsnight_70) 89 nssnow_67) 90 nsdraws_66) 91 nsgone_68) 92 nslines_65) (va_up (va_up (va_up (va_up (va_up (va_up (va_up (va_up (va_up (va_up (va_up M_41 4 gbook_58) 9 greadings_53) 41 gpmeasured_54) 42 gpmeasuredIn_55) 55 gtstack_56) 65 gustack_57) 81 gsoil_59) 82 gsowed_63) 83 gshad_61) 84 gslast_62) 85 gsdone_60) M_42 _ _ _ ⟨(by show 0 ≤ (M_40 1).toInt ∧ (M_40 1).toInt ≤ 5; omega), (by show 0 ≤ (M_40 2).toInt ∧ (M_40 2).toInt ≤ 6; omega), (by show 0 ≤ (M_40 24).toInt ∧ (M_40 24).toInt ≤ 200; omega), (by show 0 ≤ (M_40 32).toInt ∧ (M_40 32).toInt ≤ 10; omega), (by show 0 ≤ (M_40 40).toInt ∧ (M_40 40).toInt ≤ 40; omega), (by show 0 ≤ (M_40 49).toInt ∧ (M_40 49).toInt ≤ 10; omega), (by show 0 ≤ (M_40 72).toInt ∧ (M_40 72).toInt ≤ 200; omega), (by show 0 ≤ (M_40 79).toInt ∧ (M_40 79).toInt ≤ 8; omega), (by show 0 ≤ nsgone_68.toInt ∧ nsgone_68.toInt ≤ 200; omega), (by show 0 ≤ v_78.toInt; omega), (by show v_78.toInt ≤ z_n.toInt; omega), (by show 0 ≤ x_37.toInt; omega), (by show x_37.toInt ≤ v_78.toInt; omega), hi_42_13, hi_42_14, hi_42_15, hi_42_16⟩ (by omega) hw71 (lv_sub hl79 [0, 1, 2, 3, 4, 5, 6] rfl)
                    · skip
                      have hc_77 := eqE (a := x_38.toInt) (b := (-1)) rfl (by decide +kernel) c_77
                      refine lv_aload_n (pc := 96) E.1 E.2.1 dX11_run_96 rfl (lv_at hl45 4 rfl) ?_
                      refine x_get (pc := 97) (T := TX11) (N := 13) (ci := 11) (v := .ref (mr 80)) E hw71 inX11 0 7 q_613 rfl rfl (by decide) rfl rfl dX11_run_97 ?_
                      refine x_get (pc := 100) (T := TX4) (N := 12) (ci := 4) (v := .int nsspoilt_64) E hw71 inX4 51 5 q_212 rfl rfl (by decide) rfl rfl dX11_run_100 ?_
                      refine lv_iload_n (pc := 103) E.1 E.2.1 dX11_run_103 rfl (lv_at hl45 3 rfl) ?_
                      refine lv_iconst (pc := 104) (v := (-1)) E.1 E.2.1 dX11_run_104 (by decide +kernel) ?_
                      refine lv_ixor (pc := 105) E.1 E.2.1 dX11_run_105 ?_
                      refine lv_topi (fun v_80 ev_80 => ?_)
                      refine lv_iand (pc := 106) E.1 E.2.1 dX11_run_106 ?_
                      refine lv_topi (fun v_81 ev_81 => ?_)
                      refine cq_i (pc := 107) (ws' := (fun (u : Unit) => (WZ_Mrun cI cJ mv mr (upd (upd (upd (upd (upd (upd (upd M_40 86 nsspoilt_64) 87 nslamp_69) 88 nsnight_70) 89 nssnow_67) 90 nsdraws_66) 91 nsgone_68) 92 nslines_65) (va_up (va_up (va_up (va_up (va_up (va_up (va_up (va_up (va_up (va_up (va_up M_41 4 gbook_58) 9 greadings_53) 41 gpmeasured_54) 42 gpmeasuredIn_55) 55 gtstack_56) 65 gustack_57) 81 gsoil_59) 82 gsowed_63) 83 gshad_61) 84 gslast_62) 85 gsdone_60) M_42))) hw71 [] [0, 1, 2, 3, 4, 5, 6, 7, 8, 9, 10, 11, 12, 13, 14, 15, 16, 17, 18, 19, 20, 21, 22, 23, 24, 25, 26, 27, 28, 29, 30, 31, 32, 33, 34, 35, 36, 37, 38, 39, 40, 41, 42, 43, 44, 45, 46, 47, 48, 49, 50, 51, 52, 53, 54, 55, 56] [0, 1, 2, 3, 4, 5, 6, 7, 8, 9, 10, 11, 12, 13, 14, 15, 16, 17, 18, 19, 20, 21, 22, 23, 24, 25, 26, 27, 28, 29, 30, 31, 32, 33, 34, 35, 36, 37, 38, 39, 40, 41, 42, 43, 44, 45, 46, 47, 48, 49, 50, 51, 52, 53, 54, 55, 56] rfl rfl (by decide) (by decide) (fun _ => rfl) (by decide) (rn_S (As := [.int v_81]) (rest := []) E hw71 (t_least l D cI cJ _ (ixf [] mr) (ixf [] (upd (upd (upd (upd (upd (upd (upd M_40 86 nsspoilt_64) 87 nslamp_69) 88 nsnight_70) 89 nssnow_67) 90 nsdraws_66) 91 nsgone_68) 92 nslines_65)) (ixf [] (va_up (va_up (va_up (va_up (va_up (va_up (va_up (va_up (va_up (va_up (va_up M_41 4 gbook_58) 9 greadings_53) 41 gpmeasured_54) 42 gpmeasuredIn_55) 55 gtstack_56) 65 gustack_57) 81 gsoil_59) 82 gsowed_63) 83 gshad_61) 84 gslast_62) 85 gsdone_60)) (ixf [] M_42) v_81) (gdS q_1147 q_1148 q_151 q_1149) hdV_X11_least ⟨rfl, rfl⟩ ⟨(Nat.le_of_ble_eq_true rfl), (Nat.le_of_ble_eq_true rfl)⟩ ⟨(Nat.le_of_ble_eq_true rfl), (Nat.le_of_ble_eq_true rfl)⟩ xT_b xT_at [] rfl (by decide) rfl hl45.1 rfl (Nat.le_of_ble_eq_true rfl) dX11_run_107) (fun r_83 u_82 H1 locs hp hw84 => ?_)
                      generalize H1 = H at hw84 ⊢
                      have hw85 : WD D A s.heap (WZ_Mrun cI cJ mv mr (upd (upd (upd (upd (upd (upd (upd M_40 86 nsspoilt_64) 87 nslamp_69) 88 nsnight_70) 89 nssnow_67) 90 nsdraws_66) 91 nsgone_68) 92 nslines_65) (va_up (va_up (va_up (va_up (va_up (va_up (va_up (va_up (va_up (va_up (va_up M_41 4 gbook_58) 9 greadings_53) 41 gpmeasured_54) 42 gpmeasuredIn_55) 55 gtstack_56) 65 gustack_57) 81 gsoil_59) 82 gsowed_63) 83 gshad_61) 84 gslast_62) 85 gsdone_60) M_42) H locs := hw84
                      refine lv_istore (pc := 110) (lv' := [(5, .int r_83), (6, .int x_39), (4, .int x_37), (3, .int nspoilt_17), (0, .ref (mr 0)), (1, .int z_n), (2, .int z_what)]) E.1 E.2.1 dX11_run_110 hl45 (by decide) rfl (fun ls hl86 => ?_)
                      obtain ⟨v_87, ev_87⟩ : ∃ z : Int32, x_39 + Int32.ofInt (1) = z := ⟨_, rfl⟩
                      have hv_87 : v_87.toInt = x_39.toInt + (1) := by rw [← ev_87]; exact incE rfl (by decide) (by omega)
                      refine lv_iinc (pc := 112) (v := v_87) (lv' := [(6, .int v_87), (5, .int r_83), (4, .int x_37), (3, .int nspoilt_17), (0, .ref (mr 0)), (1, .int z_n), (2, .int z_what)]) E.1 E.2.1 dX11_run_112 hl86 (k := 1) rfl ev_87 (by decide) rfl (fun ls hl88 => ?_)
                      refine lv_goto (pc := 115) (tgt := 66) E.1 E.2.1 dX11_run_115 (by decide) ?_
                      exact ih_43 x_37 r_83 v_87 (upd (upd (upd (upd (upd (upd (upd M_40 86 nsspoilt_64) 87 nslamp_69) 88 nsnight_70) 89 nssnow_67) 90 nsdraws_66) 91 nsgone_68) 92 nslines_65) (va_up (va_up (va_up (va_up (va_up (va_up (va_up (va_up (va_up (va_up (va_up M_41 4 gbook_58) 9 greadings_53) 41 gpmeasured_54) 42 gpmeasuredIn_55) 55 gtstack_56) 65 gustack_57) 81 gsoil_59) 82 gsowed_63) 83 gshad_61) 84 gslast_62) 85 gsdone_60) M_42 _ _ _ ⟨(by show 0 ≤ (M_40 1).toInt ∧ (M_40 1).toInt ≤ 5; omega), (by show 0 ≤ (M_40 2).toInt ∧ (M_40 2).toInt ≤ 6; omega), (by show 0 ≤ (M_40 24).toInt ∧ (M_40 24).toInt ≤ 200; omega), (by show 0 ≤ (M_40 32).toInt ∧ (M_40 32).toInt ≤ 10; omega), (by show 0 ≤ (M_40 40).toInt ∧ (M_40 40).toInt ≤ 40; omega), (by show 0 ≤ (M_40 49).toInt ∧ (M_40 49).toInt ≤ 10; omega), (by show 0 ≤ (M_40 72).toInt ∧ (M_40 72).toInt ≤ 200; omega), (by show 0 ≤ (M_40 79).toInt ∧ (M_40 79).toInt ≤ 8; omega), (by show 0 ≤ nsgone_68.toInt ∧ nsgone_68.toInt ≤ 200; omega), (by show 0 ≤ v_87.toInt; omega), (by show v_87.toInt ≤ z_n.toInt; omega), (by show 0 ≤ x_37.toInt; omega), (by show x_37.toInt ≤ v_87.toInt; omega), hi_42_13, hi_42_14, hi_42_15, hi_42_16⟩ (by omega) hw85 (lv_sub hl88 [0, 1, 2, 3, 4, 5, 6] rfl)
                  · skip
                    have hc_76 := eqE (a := r_51.toInt) (b := 0) rfl (by decide +kernel) c_76
                    obtain ⟨v_89, ev_89⟩ : ∃ z : Int32, x_37 + Int32.ofInt (1) = z := ⟨_, rfl⟩
                    have hv_89 : v_89.toInt = x_37.toInt + (1) := by rw [← ev_89]; exact incE rfl (by decide) (by omega)
                    refine lv_iinc (pc := 87) (v := v_89) (lv' := [(4, .int v_89), (6, .int x_39), (5, .int x_38), (3, .int nspoilt_17), (0, .ref (mr 0)), (1, .int z_n), (2, .int z_what)]) E.1 E.2.1 dX11_run_87 hl45 (k := 2) rfl ev_89 (by decide) rfl (fun ls hl90 => ?_)
                    refine lv_iload (pc := 90) E.1 E.2.1 dX11_run_90 (lv_at hl90 2 rfl) ?_
                    refine lv_iconst (pc := 92) (v := (-1)) E.1 E.2.1 dX11_run_92 (by decide +kernel) ?_
                    refine lv_icmp_ne (pc := 93) (tgt := 112) E.1 E.2.1 dX11_run_93 (by decide) (fun c_91 => ?_) (fun c_91 => ?_)
                    · skip
                      have hc_91 := neE (a := x_38.toInt) (b := (-1)) rfl (by decide +kernel) c_91
                      obtain ⟨v_92, ev_92⟩ : ∃ z : Int32, x_39 + Int32.ofInt (1) = z := ⟨_, rfl⟩
                      have hv_92 : v_92.toInt = x_39.toInt + (1) := by rw [← ev_92]; exact incE rfl (by decide) (by omega)
                      refine lv_iinc (pc := 112) (v := v_92) (lv' := [(6, .int v_92), (4, .int v_89), (5, .int x_38), (3, .int nspoilt_17), (0, .ref (mr 0)), (1, .int z_n), (2, .int z_what)]) E.1 E.2.1 dX11_run_112 hl90 (k := 1) rfl ev_92 (by decide) rfl (fun ls hl93 => ?_)
                      refine lv_goto (pc := 115) (tgt := 66) E.1 E.2.1 dX11_run_115 (by decide) ?_
                      exact ih_43 v_89 x_38 v_92 (upd (upd (upd (upd (upd (upd (upd M_40 86 nsspoilt_64) 87 nslamp_69) 88 nsnight_70) 89 nssnow_67) 90 nsdraws_66) 91 nsgone_68) 92 nslines_65) (va_up (va_up (va_up (va_up (va_up (va_up (va_up (va_up (va_up (va_up (va_up M_41 4 gbook_58) 9 greadings_53) 41 gpmeasured_54) 42 gpmeasuredIn_55) 55 gtstack_56) 65 gustack_57) 81 gsoil_59) 82 gsowed_63) 83 gshad_61) 84 gslast_62) 85 gsdone_60) M_42 _ _ _ ⟨(by show 0 ≤ (M_40 1).toInt ∧ (M_40 1).toInt ≤ 5; omega), (by show 0 ≤ (M_40 2).toInt ∧ (M_40 2).toInt ≤ 6; omega), (by show 0 ≤ (M_40 24).toInt ∧ (M_40 24).toInt ≤ 200; omega), (by show 0 ≤ (M_40 32).toInt ∧ (M_40 32).toInt ≤ 10; omega), (by show 0 ≤ (M_40 40).toInt ∧ (M_40 40).toInt ≤ 40; omega), (by show 0 ≤ (M_40 49).toInt ∧ (M_40 49).toInt ≤ 10; omega), (by show 0 ≤ (M_40 72).toInt ∧ (M_40 72).toInt ≤ 200; omega), (by show 0 ≤ (M_40 79).toInt ∧ (M_40 79).toInt ≤ 8; omega), (by show 0 ≤ nsgone_68.toInt ∧ nsgone_68.toInt ≤ 200; omega), (by show 0 ≤ v_92.toInt; omega), (by show v_92.toInt ≤ z_n.toInt; omega), (by show 0 ≤ v_89.toInt; omega), (by show v_89.toInt ≤ v_92.toInt; omega), hi_42_13, hi_42_14, hi_42_15, hi_42_16⟩ (by omega) hw71 (lv_sub hl93 [0, 2, 1, 3, 4, 5, 6] rfl)
                    · skip
                      have hc_91 := eqE (a := x_38.toInt) (b := (-1)) rfl (by decide +kernel) c_91
                      refine lv_aload_n (pc := 96) E.1 E.2.1 dX11_run_96 rfl (lv_at hl90 4 rfl) ?_
                      refine x_get (pc := 97) (T := TX11) (N := 13) (ci := 11) (v := .ref (mr 80)) E hw71 inX11 0 7 q_613 rfl rfl (by decide) rfl rfl dX11_run_97 ?_
                      refine x_get (pc := 100) (T := TX4) (N := 12) (ci := 4) (v := .int nsspoilt_64) E hw71 inX4 51 5 q_212 rfl rfl (by decide) rfl rfl dX11_run_100 ?_
                      refine lv_iload_n (pc := 103) E.1 E.2.1 dX11_run_103 rfl (lv_at hl90 3 rfl) ?_
                      refine lv_iconst (pc := 104) (v := (-1)) E.1 E.2.1 dX11_run_104 (by decide +kernel) ?_
                      refine lv_ixor (pc := 105) E.1 E.2.1 dX11_run_105 ?_
                      refine lv_topi (fun v_94 ev_94 => ?_)
                      refine lv_iand (pc := 106) E.1 E.2.1 dX11_run_106 ?_
                      refine lv_topi (fun v_95 ev_95 => ?_)
                      refine cq_i (pc := 107) (ws' := (fun (u : Unit) => (WZ_Mrun cI cJ mv mr (upd (upd (upd (upd (upd (upd (upd M_40 86 nsspoilt_64) 87 nslamp_69) 88 nsnight_70) 89 nssnow_67) 90 nsdraws_66) 91 nsgone_68) 92 nslines_65) (va_up (va_up (va_up (va_up (va_up (va_up (va_up (va_up (va_up (va_up (va_up M_41 4 gbook_58) 9 greadings_53) 41 gpmeasured_54) 42 gpmeasuredIn_55) 55 gtstack_56) 65 gustack_57) 81 gsoil_59) 82 gsowed_63) 83 gshad_61) 84 gslast_62) 85 gsdone_60) M_42))) hw71 [] [0, 1, 2, 3, 4, 5, 6, 7, 8, 9, 10, 11, 12, 13, 14, 15, 16, 17, 18, 19, 20, 21, 22, 23, 24, 25, 26, 27, 28, 29, 30, 31, 32, 33, 34, 35, 36, 37, 38, 39, 40, 41, 42, 43, 44, 45, 46, 47, 48, 49, 50, 51, 52, 53, 54, 55, 56] [0, 1, 2, 3, 4, 5, 6, 7, 8, 9, 10, 11, 12, 13, 14, 15, 16, 17, 18, 19, 20, 21, 22, 23, 24, 25, 26, 27, 28, 29, 30, 31, 32, 33, 34, 35, 36, 37, 38, 39, 40, 41, 42, 43, 44, 45, 46, 47, 48, 49, 50, 51, 52, 53, 54, 55, 56] rfl rfl (by decide) (by decide) (fun _ => rfl) (by decide) (rn_S (As := [.int v_95]) (rest := []) E hw71 (t_least l D cI cJ _ (ixf [] mr) (ixf [] (upd (upd (upd (upd (upd (upd (upd M_40 86 nsspoilt_64) 87 nslamp_69) 88 nsnight_70) 89 nssnow_67) 90 nsdraws_66) 91 nsgone_68) 92 nslines_65)) (ixf [] (va_up (va_up (va_up (va_up (va_up (va_up (va_up (va_up (va_up (va_up (va_up M_41 4 gbook_58) 9 greadings_53) 41 gpmeasured_54) 42 gpmeasuredIn_55) 55 gtstack_56) 65 gustack_57) 81 gsoil_59) 82 gsowed_63) 83 gshad_61) 84 gslast_62) 85 gsdone_60)) (ixf [] M_42) v_95) (gdS q_1147 q_1148 q_151 q_1149) hdV_X11_least ⟨rfl, rfl⟩ ⟨(Nat.le_of_ble_eq_true rfl), (Nat.le_of_ble_eq_true rfl)⟩ ⟨(Nat.le_of_ble_eq_true rfl), (Nat.le_of_ble_eq_true rfl)⟩ xT_b xT_at [] rfl (by decide) rfl hl90.1 rfl (Nat.le_of_ble_eq_true rfl) dX11_run_107) (fun r_97 u_96 H1 locs hp hw98 => ?_)
                      generalize H1 = H at hw98 ⊢
                      have hw99 : WD D A s.heap (WZ_Mrun cI cJ mv mr (upd (upd (upd (upd (upd (upd (upd M_40 86 nsspoilt_64) 87 nslamp_69) 88 nsnight_70) 89 nssnow_67) 90 nsdraws_66) 91 nsgone_68) 92 nslines_65) (va_up (va_up (va_up (va_up (va_up (va_up (va_up (va_up (va_up (va_up (va_up M_41 4 gbook_58) 9 greadings_53) 41 gpmeasured_54) 42 gpmeasuredIn_55) 55 gtstack_56) 65 gustack_57) 81 gsoil_59) 82 gsowed_63) 83 gshad_61) 84 gslast_62) 85 gsdone_60) M_42) H locs := hw98
                      refine lv_istore (pc := 110) (lv' := [(5, .int r_97), (4, .int v_89), (6, .int x_39), (3, .int nspoilt_17), (0, .ref (mr 0)), (1, .int z_n), (2, .int z_what)]) E.1 E.2.1 dX11_run_110 hl90 (by decide) rfl (fun ls hl100 => ?_)
                      obtain ⟨v_101, ev_101⟩ : ∃ z : Int32, x_39 + Int32.ofInt (1) = z := ⟨_, rfl⟩
                      have hv_101 : v_101.toInt = x_39.toInt + (1) := by rw [← ev_101]; exact incE rfl (by decide) (by omega)
                      refine lv_iinc (pc := 112) (v := v_101) (lv' := [(6, .int v_101), (5, .int r_97), (4, .int v_89), (3, .int nspoilt_17), (0, .ref (mr 0)), (1, .int z_n), (2, .int z_what)]) E.1 E.2.1 dX11_run_112 hl100 (k := 2) rfl ev_101 (by decide) rfl (fun ls hl102 => ?_)
                      refine lv_goto (pc := 115) (tgt := 66) E.1 E.2.1 dX11_run_115 (by decide) ?_
                      exact ih_43 v_89 r_97 v_101 (upd (upd (upd (upd (upd (upd (upd M_40 86 nsspoilt_64) 87 nslamp_69) 88 nsnight_70) 89 nssnow_67) 90 nsdraws_66) 91 nsgone_68) 92 nslines_65) (va_up (va_up (va_up (va_up (va_up (va_up (va_up (va_up (va_up (va_up (va_up M_41 4 gbook_58) 9 greadings_53) 41 gpmeasured_54) 42 gpmeasuredIn_55) 55 gtstack_56) 65 gustack_57) 81 gsoil_59) 82 gsowed_63) 83 gshad_61) 84 gslast_62) 85 gsdone_60) M_42 _ _ _ ⟨(by show 0 ≤ (M_40 1).toInt ∧ (M_40 1).toInt ≤ 5; omega), (by show 0 ≤ (M_40 2).toInt ∧ (M_40 2).toInt ≤ 6; omega), (by show 0 ≤ (M_40 24).toInt ∧ (M_40 24).toInt ≤ 200; omega), (by show 0 ≤ (M_40 32).toInt ∧ (M_40 32).toInt ≤ 10; omega), (by show 0 ≤ (M_40 40).toInt ∧ (M_40 40).toInt ≤ 40; omega), (by show 0 ≤ (M_40 49).toInt ∧ (M_40 49).toInt ≤ 10; omega), (by show 0 ≤ (M_40 72).toInt ∧ (M_40 72).toInt ≤ 200; omega), (by show 0 ≤ (M_40 79).toInt ∧ (M_40 79).toInt ≤ 8; omega), (by show 0 ≤ nsgone_68.toInt ∧ nsgone_68.toInt ≤ 200; omega), (by show 0 ≤ v_101.toInt; omega), (by show v_101.toInt ≤ z_n.toInt; omega), (by show 0 ≤ v_89.toInt; omega), (by show v_89.toInt ≤ v_101.toInt; omega), hi_42_13, hi_42_14, hi_42_15, hi_42_16⟩ (by omega) hw99 (lv_sub hl102 [0, 1, 2, 3, 4, 5, 6] rfl)
            exact loop_36 (Int.toNat (z_n.toInt - 0) + 1) 0 (-1) 0 (upd (upd (upd (upd (upd (upd (upd mi 86 nspoilt_17) 87 nlamp_18) 88 nnight_19) 89 nsnow_20) 90 ndraws_21) 91 ngone_22) 92 nlines_23) (va_up (va_up (va_up (va_up (va_up mf 81 goil_12) 82 gowed_13) 83 ghad_14) 84 glast_15) 85 gdone_16) mg _ _ _ ⟨(by show 0 ≤ (mi 1).toInt ∧ (mi 1).toInt ≤ 5; omega), (by show 0 ≤ (mi 2).toInt ∧ (mi 2).toInt ≤ 6; omega), (by show 0 ≤ (mi 24).toInt ∧ (mi 24).toInt ≤ 200; omega), (by show 0 ≤ (mi 32).toInt ∧ (mi 32).toInt ≤ 10; omega), (by show 0 ≤ (mi 40).toInt ∧ (mi 40).toInt ≤ 40; omega), (by show 0 ≤ (mi 49).toInt ∧ (mi 49).toInt ≤ 10; omega), (by show 0 ≤ (mi 72).toInt ∧ (mi 72).toInt ≤ 200; omega), (by show 0 ≤ (mi 79).toInt ∧ (mi 79).toInt ≤ 8; omega), (by show 0 ≤ ngone_22.toInt ∧ ngone_22.toInt ≤ 200; omega), (by show 0 ≤ (0 : Int32).toInt; have k_0 : (0 : Int32).toInt = 0 := (by decide +kernel); omega), (by show (0 : Int32).toInt ≤ z_n.toInt; have k_0 : (0 : Int32).toInt = 0 := (by decide +kernel); omega), (by show 0 ≤ (0 : Int32).toInt; have k_0 : (0 : Int32).toInt = 0 := (by decide +kernel); omega), (by show (0 : Int32).toInt ≤ (0 : Int32).toInt; have k_0 : (0 : Int32).toInt = 0 := (by decide +kernel); omega), a_p_from, a_p_to, a_t_marks, a_u_marks⟩ (by have k_0 : (0 : Int32).toInt = 0 := (by decide +kernel); have k_1 : ((-1) : Int32).toInt = -1 := (by decide +kernel); have k_2 : (0 : Int32).toInt = 0 := (by decide +kernel); omega) hw24 (lv_sub hl35 [0, 1, 2, 3, 4, 5, 6] rfl)
          · skip
            have hc_8 := eqE (a := (mi 32).toInt) (b := 0) rfl (by decide +kernel) c_8
            refine lv_iconst (pc := 33) (v := (-1)) E.1 E.2.1 dX11_run_33 (by decide +kernel) ?_
            exact em_i (w1 := (fun (u : (Nat → Int32) × (Nat → Nat → Int32) × (Nat → Nat → Int64)) => (WZ_Mrun cI cJ mv mr u.1 u.2.1 u.2.2))) E hr hlk (mi, mf, mg) hw1 ⟨(by show 0 ≤ (mi 1).toInt; have k_0 : ((-1) : Int32).toInt = -1 := (by decide +kernel); omega), (by show (mi 1).toInt ≤ 5; have k_0 : ((-1) : Int32).toInt = -1 := (by decide +kernel); omega), (by show 0 ≤ (mi 2).toInt; have k_0 : ((-1) : Int32).toInt = -1 := (by decide +kernel); omega), (by show (mi 2).toInt ≤ 6; have k_0 : ((-1) : Int32).toInt = -1 := (by decide +kernel); omega), (by show 0 ≤ (mi 24).toInt; have k_0 : ((-1) : Int32).toInt = -1 := (by decide +kernel); omega), (by show (mi 24).toInt ≤ 200; have k_0 : ((-1) : Int32).toInt = -1 := (by decide +kernel); omega), (by show 0 ≤ (mi 32).toInt; have k_0 : ((-1) : Int32).toInt = -1 := (by decide +kernel); omega), (by show (mi 32).toInt ≤ 10; have k_0 : ((-1) : Int32).toInt = -1 := (by decide +kernel); omega), (by show 0 ≤ (mi 40).toInt; have k_0 : ((-1) : Int32).toInt = -1 := (by decide +kernel); omega), (by show (mi 40).toInt ≤ 40; have k_0 : ((-1) : Int32).toInt = -1 := (by decide +kernel); omega), (by show 0 ≤ (mi 49).toInt; have k_0 : ((-1) : Int32).toInt = -1 := (by decide +kernel); omega), (by show (mi 49).toInt ≤ 10; have k_0 : ((-1) : Int32).toInt = -1 := (by decide +kernel); omega), (by show 0 ≤ (mi 72).toInt; have k_0 : ((-1) : Int32).toInt = -1 := (by decide +kernel); omega), (by show (mi 72).toInt ≤ 200; have k_0 : ((-1) : Int32).toInt = -1 := (by decide +kernel); omega), (by show 0 ≤ (mi 79).toInt; have k_0 : ((-1) : Int32).toInt = -1 := (by decide +kernel); omega), (by show (mi 79).toInt ≤ 8; have k_0 : ((-1) : Int32).toInt = -1 := (by decide +kernel); omega), a_p_from, a_p_to, a_t_marks, a_u_marks⟩ (Nat.le_of_ble_eq_true rfl) (Nat.le_of_ble_eq_true rfl) dX11_run_34
set_option maxHeartbeats 4000000 in
set_option maxRecDepth 100000 in
theorem t_mend (l : Launch) (D : va_G) (cI cJ : ClassId) (sz : Nat) (mr : Nat → Nat) (mi : Nat → Int32) (mf : Nat → Nat → Int32) (mg : Nat → Nat → Int64) (z_house : Int32) (mv : Nat → Value) (h0 : 0 ≤ (mi 1).toInt ∧ (mi 1).toInt ≤ 5) (h1 : 0 ≤ (mi 2).toInt ∧ (mi 2).toInt ≤ 6) (h2 : 0 ≤ (mi 19).toInt ∧ (mi 19).toInt ≤ 200) (h3 : 0 ≤ (mi 27).toInt ∧ (mi 27).toInt ≤ 10) : Met l yX11_mend (Cond.code yX11_mend cX11_mend 5 (some .int) :: GW) ({ frames := 11, cells := 0, slots := 0, locals := 263 } : Room) (va_Pc [.ref (mr 0), .int z_house] (PW D cI cJ sz (WZ_Mmend cI cJ mv mr mi mf mg) xT)) (va_Qi (fun (r : Int32) (u : (Nat → Int32) × (Nat → Nat → Int32) × (Nat → Nat → Int64)) => (0 ≤ (u.1 1).toInt) ∧ ((u.1 1).toInt ≤ 5) ∧ (0 ≤ (u.1 2).toInt) ∧ ((u.1 2).toInt ≤ 6) ∧ (0 ≤ (u.1 19).toInt) ∧ ((u.1 19).toInt ≤ 200) ∧ (0 ≤ (u.1 27).toInt) ∧ ((u.1 27).toInt ≤ 10)) (fun u => QW D cI cJ (va_A (WZ_Mmend cI cJ mv mr mi mf mg) sz) ((fun (u : (Nat → Int32) × (Nat → Nat → Int32) × (Nat → Nat → Int64)) => (WZ_Mmend cI cJ mv mr u.1 u.2.1 u.2.2)) u)) (va_A (WZ_Mmend cI cJ mv mr mi mf mg) sz)) 0 0 (va_A (WZ_Mmend cI cJ mv mr mi mf mg) sz) := by
  refine mk_met (y := yX11_mend) (bytes := cX11_mend) (maxL := 5) (avs := [.ref (mr 0), .int z_house]) (WS := (WZ_Mmend cI cJ mv mr mi mf mg)) (Qf := fun A => va_Qi (fun (r : Int32) (u : (Nat → Int32) × (Nat → Nat → Int32) × (Nat → Nat → Int64)) => (0 ≤ (u.1 1).toInt) ∧ ((u.1 1).toInt ≤ 5) ∧ (0 ≤ (u.1 2).toInt) ∧ ((u.1 2).toInt ≤ 6) ∧ (0 ≤ (u.1 19).toInt) ∧ ((u.1 19).toInt ≤ 200) ∧ (0 ≤ (u.1 27).toInt) ∧ ((u.1 27).toInt ≤ 10)) (fun u => QW D cI cJ A ((fun (u : (Nat → Int32) × (Nat → Nat → Int32) × (Nat → Nat → Int64)) => (WZ_Mmend cI cJ mv mr u.1 u.2.1 u.2.2)) u)) A) (by decide) (Nat.le_of_ble_eq_true rfl) ?_
  intro p e s m below meth c A ls E hr hlk hnm hX hw1 hl2
  have hl3 : lv_has ls 5 [(0, .ref (mr 0)), (1, .int z_house)] := hl2
  refine lv_iload_n (pc := 0) E.1 E.2.1 dX11_mend_0 rfl (lv_at hl3 1 rfl) ?_
  refine lv_iconst (pc := 1) (v := (-1)) E.1 E.2.1 dX11_mend_1 (by decide +kernel) ?_
  refine lv_icmp_eq (pc := 2) (tgt := 21) E.1 E.2.1 dX11_mend_2 (by decide) (fun c_4 => ?_) (fun c_4 => ?_)
  · skip
    have hc_4 := eqE (a := z_house.toInt) (b := (-1)) rfl (by decide +kernel) c_4
    refine lv_aload_n (pc := 21) E.1 E.2.1 dX11_mend_21 rfl (lv_at hl3 0 rfl) ?_
    refine x_get (pc := 22) (T := TX11) (N := 13) (ci := 11) (v := .ref (mr 3)) E hw1 inX11 0 0 q_606 rfl rfl (by decide) rfl rfl dX11_mend_22 ?_
    refine x_get (pc := 25) (T := TX10) (N := 17) (ci := 10) (v := .ref (mr 8)) E hw1 inX10 1 0 q_458 rfl rfl (by decide) rfl rfl dX11_mend_25 ?_
    refine x_get (pc := 28) (T := TX4) (N := 12) (ci := 4) (v := .ref (mr 11)) E hw1 inX4 2 2 q_199 rfl rfl (by decide) rfl rfl dX11_mend_28 ?_
    refine lv_astore_n (pc := 31) (lv' := [(2, .ref (mr 11)), (0, .ref (mr 0)), (1, .int z_house)]) E.1 E.2.1 dX11_mend_31 rfl hl3 (by decide) rfl (fun ls hl5 => ?_)
    refine lv_aload_n (pc := 32) E.1 E.2.1 dX11_mend_32 rfl (lv_at hl5 1 rfl) ?_
    refine x_get (pc := 33) (T := TX11) (N := 13) (ci := 11) (v := .ref (mr 3)) E hw1 inX11 0 0 q_606 rfl rfl (by decide) rfl rfl dX11_mend_33 ?_
    refine x_get (pc := 36) (T := TX10) (N := 17) (ci := 10) (v := .ref (mr 21)) E hw1 inX10 1 1 q_463 rfl rfl (by decide) rfl rfl dX11_mend_36 ?_
    refine lv_aload_n (pc := 39) E.1 E.2.1 dX11_mend_39 rfl (lv_at hl5 0 rfl) ?_
    refine lv_aload_n (pc := 40) E.1 E.2.1 dX11_mend_40 rfl (lv_at hl5 1 rfl) ?_
    refine x_get (pc := 41) (T := TX11) (N := 13) (ci := 11) (v := .ref (mr 3)) E hw1 inX11 0 0 q_606 rfl rfl (by decide) rfl rfl dX11_mend_41 ?_
    refine x_get (pc := 44) (T := TX10) (N := 17) (ci := 10) (v := .int (mi 5)) E hw1 inX10 1 10 q_484 rfl rfl (by decide) rfl rfl dX11_mend_44 ?_
    refine cq_i (pc := 47) (ws' := (fun (u : (Nat → Int32)) => (WZ_Mmend cI cJ mv mr mi (va_up mf 28 u) mg))) hw1 [8, 9, 10, 11, 12, 13, 14, 15, 5] [0, 1, 2, 3, 4, 6, 7] [0, 1, 2, 3, 4, 15, 5, 6, 7, 8, 9, 10, 11, 12, 13, 14] rfl rfl (by decide) (by decide) (fun _ => rfl) (by decide) (rn_V (As := [.ref (mr 11), .int (mi 5)]) (rest := []) E hw1 (t_canMend l D cI cJ _ (ixf [21, 22, 23, 24, 25, 26, 27, 28, 29, 11] mr) (ixf [21, 22, 23, 24, 25, 26, 27, 28, 29, 11] mi) (ixf [21, 22, 23, 24, 25, 26, 27, 28, 29, 11] mf) (ixf [21, 22, 23, 24, 25, 26, 27, 28, 29, 11] mg) (mi 5) (vl [mv 21]) (by show 0 ≤ (mi 27).toInt ∧ (mi 27).toInt ≤ 10; omega)) (gdV q_1250 q_1251 q_1252 q_154 q_1253) hdV_X1_canMend ⟨rfl, rfl⟩ ⟨(Nat.le_of_ble_eq_true rfl), (Nat.le_of_ble_eq_true rfl)⟩ ⟨(Nat.le_of_ble_eq_true rfl), (Nat.le_of_ble_eq_true rfl)⟩ xT_b xT_at 8 1 rfl rfl rfl [8, 9, 10, 11, 12, 13, 14, 15, 5] rfl (by decide) rfl hl5.1 rfl (Nat.le_of_ble_eq_true rfl) dX11_mend_47) (fun r_7 u_6 H1 locs hp hw8 => ?_)
    obtain ⟨gmended_9, rfl⟩ : ∃ z, z = u_6 := ⟨_, rfl⟩
    generalize H1 = H at hw8 ⊢
    have hw10 : WD D A s.heap (WZ_Mmend cI cJ mv mr mi (va_up mf 28 gmended_9) mg) H locs := hw8
    obtain ⟨hp_11, hp_12⟩ := hp
    have hp_11 : 0 ≤ r_7.toInt := hp_11
    have hp_12 : r_7.toInt ≤ 1 := hp_12
    refine lv_if_ne (pc := 50) (tgt := 55) E.1 E.2.1 dX11_mend_50 (by decide) (fun c_13 => ?_) (fun c_13 => ?_)
    · skip
      have hc_13 := neE (a := r_7.toInt) (b := 0) rfl (by decide +kernel) c_13
      refine lv_iload_n (pc := 55) E.1 E.2.1 dX11_mend_55 rfl (lv_at hl5 2 rfl) ?_
      refine lv_iconst (pc := 56) (v := (-1)) E.1 E.2.1 dX11_mend_56 (by decide +kernel) ?_
      refine lv_icmp_eq (pc := 57) (tgt := 77) E.1 E.2.1 dX11_mend_57 (by decide) (fun _ => ?_) (fun c_14 => absurd (meqE (a := z_house.toInt) (b := (-1)) rfl (by decide +kernel) (by omega)) c_14)
      refine lv_iconst (pc := 77) (v := 0) E.1 E.2.1 dX11_mend_77 (by decide +kernel) ?_
      refine lv_istore_n (pc := 78) (lv' := [(3, .int 0), (2, .ref (mr 11)), (0, .ref (mr 0)), (1, .int z_house)]) E.1 E.2.1 dX11_mend_78 rfl hl5 (by decide) rfl (fun ls hl15 => ?_)
      refine lv_iconst (pc := 79) (v := 0) E.1 E.2.1 dX11_mend_79 (by decide +kernel) ?_
      refine lv_istore (pc := 80) (lv' := [(4, .int 0), (3, .int 0), (2, .ref (mr 11)), (0, .ref (mr 0)), (1, .int z_house)]) E.1 E.2.1 dX11_mend_80 hl15 (by decide) rfl (fun ls hl16 => ?_)
      have loop_17 : ∀ (k : Nat) (x_18 : Int32) (x_19 : Int32) (H : Heap) (locs : List Loc) (ls : Array Slot), (0 ≤ x_19.toInt) ∧ (x_19.toInt ≤ (mi 27).toInt) → (mi 27).toInt - x_19.toInt < (k : Int) → WD D A s.heap (WZ_Mmend cI cJ mv mr mi (va_up mf 28 gmended_9) mg) H locs → lv_has ls 5 [(4, .int x_19), (3, .int x_18), (2, .ref (mr 11)), (0, .ref (mr 0)), (1, .int z_house)] → W p l e ({ frames := 11, cells := 0, slots := 0, locals := 263 } : Room) s m ([.ref (mr 0), .int z_house] : List Value).toArray below meth c H locs 0 0 (MQ below (va_Qi (fun (r : Int32) (u : (Nat → Int32) × (Nat → Nat → Int32) × (Nat → Nat → Int64)) => (0 ≤ (u.1 1).toInt) ∧ ((u.1 1).toInt ≤ 5) ∧ (0 ≤ (u.1 2).toInt) ∧ ((u.1 2).toInt ≤ 6) ∧ (0 ≤ (u.1 19).toInt) ∧ ((u.1 19).toInt ≤ 200) ∧ (0 ≤ (u.1 27).toInt) ∧ ((u.1 27).toInt ≤ 10)) (fun u => QW D cI cJ A ((fun (u : (Nat → Int32) × (Nat → Nat → Int32) × (Nat → Nat → Int64)) => (WZ_Mmend cI cJ mv mr u.1 u.2.1 u.2.2)) u)) A) ([.ref (mr 0), .int z_house] : List Value).toArray s 0 0 A) (F0 m 82 ls []) := by
        intro k
        induction k with
        | zero =>
          intro x_18 x_19 _ _ _ hinv hm
          obtain ⟨hi_19_0, hi_19_1⟩ := hinv
          exact absurd hm (by omega)
        | succ k ih_20 =>
          intro x_18 x_19 H locs ls hinv hm hw21 hl22
          obtain ⟨hi_19_0, hi_19_1⟩ := hinv
          refine lv_iload (pc := 82) E.1 E.2.1 dX11_mend_82 (lv_at hl22 0 rfl) ?_
          refine lv_aload_n (pc := 84) E.1 E.2.1 dX11_mend_84 rfl (lv_at hl22 3 rfl) ?_
          refine x_get (pc := 85) (T := TX11) (N := 13) (ci := 11) (v := .ref (mr 3)) E hw21 inX11 0 0 q_606 rfl rfl (by decide) rfl rfl dX11_mend_85 ?_
          refine x_get (pc := 88) (T := TX10) (N := 17) (ci := 10) (v := .ref (mr 21)) E hw21 inX10 1 1 q_463 rfl rfl (by decide) rfl rfl dX11_mend_88 ?_
          refine x_get (pc := 91) (T := TX1) (N := 9) (ci := 1) (v := .int (mi 27)) E hw21 inX1 8 5 q_282 rfl rfl (by decide) rfl rfl dX11_mend_91 ?_
          refine lv_icmp_ge (pc := 94) (tgt := 124) E.1 E.2.1 dX11_mend_94 (by decide) (fun c_23 => ?_) (fun c_23 => ?_)
          · skip
            have hc_23 := leE (a := (mi 27).toInt) (b := x_19.toInt) rfl rfl c_23
            refine lv_iload_n (pc := 124) E.1 E.2.1 dX11_mend_124 rfl (lv_at hl22 1 rfl) ?_
            exact em_i (w1 := (fun (u : (Nat → Int32) × (Nat → Nat → Int32) × (Nat → Nat → Int64)) => (WZ_Mmend cI cJ mv mr u.1 u.2.1 u.2.2))) E hr hlk (mi, (va_up mf 28 gmended_9), mg) hw21 ⟨(by show 0 ≤ (mi 1).toInt; omega), (by show (mi 1).toInt ≤ 5; omega), (by show 0 ≤ (mi 2).toInt; omega), (by show (mi 2).toInt ≤ 6; omega), (by show 0 ≤ (mi 19).toInt; omega), (by show (mi 19).toInt ≤ 200; omega), (by show 0 ≤ (mi 27).toInt; omega), (by show (mi 27).toInt ≤ 10; omega)⟩ (Nat.le_of_ble_eq_true rfl) (Nat.le_of_ble_eq_true rfl) dX11_mend_125
          · skip
            have hc_23 := nleE (a := (mi 27).toInt) (b := x_19.toInt) rfl rfl c_23
            refine lv_iload_n (pc := 97) E.1 E.2.1 dX11_mend_97 rfl (lv_at hl22 1 rfl) ?_
            refine lv_aload_n (pc := 98) E.1 E.2.1 dX11_mend_98 rfl (lv_at hl22 3 rfl) ?_
            refine x_get (pc := 99) (T := TX11) (N := 13) (ci := 11) (v := .ref (mr 3)) E hw21 inX11 0 0 q_606 rfl rfl (by decide) rfl rfl dX11_mend_99 ?_
            refine x_get (pc := 102) (T := TX10) (N := 17) (ci := 10) (v := .ref (mr 21)) E hw21 inX10 1 1 q_463 rfl rfl (by decide) rfl rfl dX11_mend_102 ?_
            refine x_get (pc := 105) (T := TX1) (N := 9) (ci := 1) (v := .ref (mr 28)) E hw21 inX1 8 6 q_285 rfl rfl (by decide) rfl rfl dX11_mend_105 ?_
            refine lv_iload (pc := 108) E.1 E.2.1 dX11_mend_108 (lv_at hl22 0 rfl) ?_
            refine x_iald (pc := 110) (f := gmended_9) E hw21 14 rfl (inbE (a := x_19.toInt) rfl (by omega)) dX11_mend_110 ?_
            refine lv_topi (fun v_24 ev_24 => ?_)
            refine lv_aload_n (pc := 111) E.1 E.2.1 dX11_mend_111 rfl (lv_at hl22 2 rfl) ?_
            refine lv_iload (pc := 112) E.1 E.2.1 dX11_mend_112 (lv_at hl22 0 rfl) ?_
            refine x_iald (pc := 114) (f := (mf 11)) E hw21 5 rfl (inbE (a := x_19.toInt) rfl (by omega)) dX11_mend_114 ?_
            refine lv_topi (fun v_25 ev_25 => ?_)
            refine lv_isub (pc := 115) E.1 E.2.1 dX11_mend_115 ?_
            refine lv_topi (fun v_26 ev_26 => ?_)
            refine lv_iadd (pc := 116) E.1 E.2.1 dX11_mend_116 ?_
            refine lv_topi (fun v_27 ev_27 => ?_)
            refine lv_istore_n (pc := 117) (lv' := [(3, .int v_27), (4, .int x_19), (2, .ref (mr 11)), (0, .ref (mr 0)), (1, .int z_house)]) E.1 E.2.1 dX11_mend_117 rfl hl22 (by decide) rfl (fun ls hl28 => ?_)
            obtain ⟨v_29, ev_29⟩ : ∃ z : Int32, x_19 + Int32.ofInt (1) = z := ⟨_, rfl⟩
            have hv_29 : v_29.toInt = x_19.toInt + (1) := by rw [← ev_29]; exact incE rfl (by decide) (by omega)
            refine lv_iinc (pc := 118) (v := v_29) (lv' := [(4, .int v_29), (3, .int v_27), (2, .ref (mr 11)), (0, .ref (mr 0)), (1, .int z_house)]) E.1 E.2.1 dX11_mend_118 hl28 (k := 1) rfl ev_29 (by decide) rfl (fun ls hl30 => ?_)
            refine lv_goto (pc := 121) (tgt := 82) E.1 E.2.1 dX11_mend_121 (by decide) ?_
            exact ih_20 v_27 v_29 _ _ _ ⟨(by show 0 ≤ v_29.toInt; omega), (by show v_29.toInt ≤ (mi 27).toInt; omega)⟩ (by omega) hw21 (lv_sub hl30 [0, 1, 2, 3, 4] rfl)
      exact loop_17 (Int.toNat ((mi 27).toInt - 0) + 1) 0 0 _ _ _ ⟨(by show 0 ≤ (0 : Int32).toInt; have k_0 : (0 : Int32).toInt = 0 := (by decide +kernel); omega), (by show (0 : Int32).toInt ≤ (mi 27).toInt; have k_0 : (0 : Int32).toInt = 0 := (by decide +kernel); omega)⟩ (by have k_0 : (0 : Int32).toInt = 0 := (by decide +kernel); have k_1 : (0 : Int32).toInt = 0 := (by decide +kernel); omega) hw10 (lv_sub hl16 [0, 1, 2, 3, 4] rfl)
    · skip
      have hc_13 := eqE (a := r_7.toInt) (b := 0) rfl (by decide +kernel) c_13
      refine lv_iconst (pc := 53) (v := (-1)) E.1 E.2.1 dX11_mend_53 (by decide +kernel) ?_
      exact em_i (w1 := (fun (u : (Nat → Int32) × (Nat → Nat → Int32) × (Nat → Nat → Int64)) => (WZ_Mmend cI cJ mv mr u.1 u.2.1 u.2.2))) E hr hlk (mi, (va_up mf 28 gmended_9), mg) hw10 ⟨(by show 0 ≤ (mi 1).toInt; have k_0 : ((-1) : Int32).toInt = -1 := (by decide +kernel); omega), (by show (mi 1).toInt ≤ 5; have k_0 : ((-1) : Int32).toInt = -1 := (by decide +kernel); omega), (by show 0 ≤ (mi 2).toInt; have k_0 : ((-1) : Int32).toInt = -1 := (by decide +kernel); omega), (by show (mi 2).toInt ≤ 6; have k_0 : ((-1) : Int32).toInt = -1 := (by decide +kernel); omega), (by show 0 ≤ (mi 19).toInt; have k_0 : ((-1) : Int32).toInt = -1 := (by decide +kernel); omega), (by show (mi 19).toInt ≤ 200; have k_0 : ((-1) : Int32).toInt = -1 := (by decide +kernel); omega), (by show 0 ≤ (mi 27).toInt; have k_0 : ((-1) : Int32).toInt = -1 := (by decide +kernel); omega), (by show (mi 27).toInt ≤ 10; have k_0 : ((-1) : Int32).toInt = -1 := (by decide +kernel); omega)⟩ (Nat.le_of_ble_eq_true rfl) (Nat.le_of_ble_eq_true rfl) dX11_mend_54
  · skip
    have hc_4 := neE (a := z_house.toInt) (b := (-1)) rfl (by decide +kernel) c_4
    refine lv_aload_n (pc := 5) E.1 E.2.1 dX11_mend_5 rfl (lv_at hl3 0 rfl) ?_
    refine x_get (pc := 6) (T := TX11) (N := 13) (ci := 11) (v := .ref (mr 3)) E hw1 inX11 0 0 q_606 rfl rfl (by decide) rfl rfl dX11_mend_6 ?_
    refine x_get (pc := 9) (T := TX10) (N := 17) (ci := 10) (v := .ref (mr 21)) E hw1 inX10 1 1 q_463 rfl rfl (by decide) rfl rfl dX11_mend_9 ?_
    refine lv_iload_n (pc := 12) E.1 E.2.1 dX11_mend_12 rfl (lv_at hl3 1 rfl) ?_
    refine cq_i (pc := 13) (ws' := (fun (u : Unit) => (WZ_Mmend cI cJ mv mr mi mf mg))) hw1 [8, 9, 10, 11, 12, 13, 14, 15] [0, 1, 2, 3, 4, 5, 6, 7] [0, 1, 2, 3, 4, 5, 6, 7, 8, 9, 10, 11, 12, 13, 14, 15] rfl rfl (by decide) (by decide) (fun _ => rfl) (by decide) (rn_V (As := [.int z_house]) (rest := []) E hw1 (t_has l D cI cJ _ (ixf [21, 22, 23, 24, 25, 26, 27, 28, 29] mr) (ixf [21, 22, 23, 24, 25, 26, 27, 28, 29] mi) (ixf [21, 22, 23, 24, 25, 26, 27, 28, 29] mf) (ixf [21, 22, 23, 24, 25, 26, 27, 28, 29] mg) z_house (vl [mv 21])) (gdV q_674 q_675 q_676 q_154 q_677) hdV_X1_has ⟨rfl, rfl⟩ ⟨(Nat.le_of_ble_eq_true rfl), (Nat.le_of_ble_eq_true rfl)⟩ ⟨(Nat.le_of_ble_eq_true rfl), (Nat.le_of_ble_eq_true rfl)⟩ xT_b xT_at 8 1 rfl rfl rfl [8, 9, 10, 11, 12, 13, 14, 15] rfl (by decide) rfl hl3.1 rfl (Nat.le_of_ble_eq_true rfl) dX11_mend_13) (fun r_32 u_31 H1 locs hp hw33 => ?_)
    generalize H1 = H at hw33 ⊢
    have hw34 : WD D A s.heap (WZ_Mmend cI cJ mv mr mi mf mg) H locs := hw33
    have hp_35 := hp
    rcases hp_35 with ⟨rfl, ha_36, ha_37, ha_38⟩ | rfl
    · skip
      have ha_36 : 0 ≤ z_house.toInt := ha_36
      have ha_37 : z_house.toInt + 1 ≤ (mi 27).toInt := ha_37
      have ha_38 : z_house.toInt ≤ 9 := ha_38
      refine lv_if_ne (pc := 16) (tgt := 21) E.1 E.2.1 dX11_mend_16 (by decide) (fun _ => ?_) (fun c_39 => absurd c_39 (mneE (a := 1) (b := 0) (by decide +kernel) (by decide +kernel) (by omega)))
      refine lv_aload_n (pc := 21) E.1 E.2.1 dX11_mend_21 rfl (lv_at hl3 0 rfl) ?_
      refine x_get (pc := 22) (T := TX11) (N := 13) (ci := 11) (v := .ref (mr 3)) E hw34 inX11 0 0 q_606 rfl rfl (by decide) rfl rfl dX11_mend_22 ?_
      refine x_get (pc := 25) (T := TX10) (N := 17) (ci := 10) (v := .ref (mr 8)) E hw34 inX10 1 0 q_458 rfl rfl (by decide) rfl rfl dX11_mend_25 ?_
      refine x_get (pc := 28) (T := TX4) (N := 12) (ci := 4) (v := .ref (mr 11)) E hw34 inX4 2 2 q_199 rfl rfl (by decide) rfl rfl dX11_mend_28 ?_
      refine lv_astore_n (pc := 31) (lv' := [(2, .ref (mr 11)), (0, .ref (mr 0)), (1, .int z_house)]) E.1 E.2.1 dX11_mend_31 rfl hl3 (by decide) rfl (fun ls hl40 => ?_)
      refine lv_aload_n (pc := 32) E.1 E.2.1 dX11_mend_32 rfl (lv_at hl40 1 rfl) ?_
      refine x_get (pc := 33) (T := TX11) (N := 13) (ci := 11) (v := .ref (mr 3)) E hw34 inX11 0 0 q_606 rfl rfl (by decide) rfl rfl dX11_mend_33 ?_
      refine x_get (pc := 36) (T := TX10) (N := 17) (ci := 10) (v := .ref (mr 21)) E hw34 inX10 1 1 q_463 rfl rfl (by decide) rfl rfl dX11_mend_36 ?_
      refine lv_aload_n (pc := 39) E.1 E.2.1 dX11_mend_39 rfl (lv_at hl40 0 rfl) ?_
      refine lv_aload_n (pc := 40) E.1 E.2.1 dX11_mend_40 rfl (lv_at hl40 1 rfl) ?_
      refine x_get (pc := 41) (T := TX11) (N := 13) (ci := 11) (v := .ref (mr 3)) E hw34 inX11 0 0 q_606 rfl rfl (by decide) rfl rfl dX11_mend_41 ?_
      refine x_get (pc := 44) (T := TX10) (N := 17) (ci := 10) (v := .int (mi 5)) E hw34 inX10 1 10 q_484 rfl rfl (by decide) rfl rfl dX11_mend_44 ?_
      refine cq_i (pc := 47) (ws' := (fun (u : (Nat → Int32)) => (WZ_Mmend cI cJ mv mr mi (va_up mf 28 u) mg))) hw34 [8, 9, 10, 11, 12, 13, 14, 15, 5] [0, 1, 2, 3, 4, 6, 7] [0, 1, 2, 3, 4, 15, 5, 6, 7, 8, 9, 10, 11, 12, 13, 14] rfl rfl (by decide) (by decide) (fun _ => rfl) (by decide) (rn_V (As := [.ref (mr 11), .int (mi 5)]) (rest := []) E hw34 (t_canMend l D cI cJ _ (ixf [21, 22, 23, 24, 25, 26, 27, 28, 29, 11] mr) (ixf [21, 22, 23, 24, 25, 26, 27, 28, 29, 11] mi) (ixf [21, 22, 23, 24, 25, 26, 27, 28, 29, 11] mf) (ixf [21, 22, 23, 24, 25, 26, 27, 28, 29, 11] mg) (mi 5) (vl [mv 21]) (by show 0 ≤ (mi 27).toInt ∧ (mi 27).toInt ≤ 10; omega)) (gdV q_1250 q_1251 q_1252 q_154 q_1253) hdV_X1_canMend ⟨rfl, rfl⟩ ⟨(Nat.le_of_ble_eq_true rfl), (Nat.le_of_ble_eq_true rfl)⟩ ⟨(Nat.le_of_ble_eq_true rfl), (Nat.le_of_ble_eq_true rfl)⟩ xT_b xT_at 8 1 rfl rfl rfl [8, 9, 10, 11, 12, 13, 14, 15, 5] rfl (by decide) rfl hl40.1 rfl (Nat.le_of_ble_eq_true rfl) dX11_mend_47) (fun r_42 u_41 H1 locs hp hw43 => ?_)
      obtain ⟨gmended_44, rfl⟩ : ∃ z, z = u_41 := ⟨_, rfl⟩
      generalize H1 = H at hw43 ⊢
      have hw45 : WD D A s.heap (WZ_Mmend cI cJ mv mr mi (va_up mf 28 gmended_44) mg) H locs := hw43
      obtain ⟨hp_46, hp_47⟩ := hp
      have hp_46 : 0 ≤ r_42.toInt := hp_46
      have hp_47 : r_42.toInt ≤ 1 := hp_47
      refine lv_if_ne (pc := 50) (tgt := 55) E.1 E.2.1 dX11_mend_50 (by decide) (fun c_48 => ?_) (fun c_48 => ?_)
      · skip
        have hc_48 := neE (a := r_42.toInt) (b := 0) rfl (by decide +kernel) c_48
        refine lv_iload_n (pc := 55) E.1 E.2.1 dX11_mend_55 rfl (lv_at hl40 2 rfl) ?_
        refine lv_iconst (pc := 56) (v := (-1)) E.1 E.2.1 dX11_mend_56 (by decide +kernel) ?_
        refine lv_icmp_eq (pc := 57) (tgt := 77) E.1 E.2.1 dX11_mend_57 (by decide) (fun c_49 => absurd c_49 (mneE (a := z_house.toInt) (b := (-1)) rfl (by decide +kernel) (by omega))) (fun _ => ?_)
        refine lv_aload_n (pc := 60) E.1 E.2.1 dX11_mend_60 rfl (lv_at hl40 1 rfl) ?_
        refine x_get (pc := 61) (T := TX11) (N := 13) (ci := 11) (v := .ref (mr 3)) E hw45 inX11 0 0 q_606 rfl rfl (by decide) rfl rfl dX11_mend_61 ?_
        refine x_get (pc := 64) (T := TX10) (N := 17) (ci := 10) (v := .ref (mr 21)) E hw45 inX10 1 1 q_463 rfl rfl (by decide) rfl rfl dX11_mend_64 ?_
        refine x_get (pc := 67) (T := TX1) (N := 9) (ci := 1) (v := .ref (mr 28)) E hw45 inX1 8 6 q_285 rfl rfl (by decide) rfl rfl dX11_mend_67 ?_
        refine lv_iload_n (pc := 70) E.1 E.2.1 dX11_mend_70 rfl (lv_at hl40 2 rfl) ?_
        refine x_iald (pc := 71) (f := gmended_44) E hw45 14 rfl (inbE (a := z_house.toInt) rfl (by omega)) dX11_mend_71 ?_
        refine lv_topi (fun v_50 ev_50 => ?_)
        refine lv_aload_n (pc := 72) E.1 E.2.1 dX11_mend_72 rfl (lv_at hl40 0 rfl) ?_
        refine lv_iload_n (pc := 73) E.1 E.2.1 dX11_mend_73 rfl (lv_at hl40 2 rfl) ?_
        refine x_iald (pc := 74) (f := (mf 11)) E hw45 5 rfl (inbE (a := z_house.toInt) rfl (by omega)) dX11_mend_74 ?_
        refine lv_topi (fun v_51 ev_51 => ?_)
        refine lv_isub (pc := 75) E.1 E.2.1 dX11_mend_75 ?_
        refine lv_topi (fun v_52 ev_52 => ?_)
        exact em_i (w1 := (fun (u : (Nat → Int32) × (Nat → Nat → Int32) × (Nat → Nat → Int64)) => (WZ_Mmend cI cJ mv mr u.1 u.2.1 u.2.2))) E hr hlk (mi, (va_up mf 28 gmended_44), mg) hw45 ⟨(by show 0 ≤ (mi 1).toInt; omega), (by show (mi 1).toInt ≤ 5; omega), (by show 0 ≤ (mi 2).toInt; omega), (by show (mi 2).toInt ≤ 6; omega), (by show 0 ≤ (mi 19).toInt; omega), (by show (mi 19).toInt ≤ 200; omega), (by show 0 ≤ (mi 27).toInt; omega), (by show (mi 27).toInt ≤ 10; omega)⟩ (Nat.le_of_ble_eq_true rfl) (Nat.le_of_ble_eq_true rfl) dX11_mend_76
      · skip
        have hc_48 := eqE (a := r_42.toInt) (b := 0) rfl (by decide +kernel) c_48
        refine lv_iconst (pc := 53) (v := (-1)) E.1 E.2.1 dX11_mend_53 (by decide +kernel) ?_
        exact em_i (w1 := (fun (u : (Nat → Int32) × (Nat → Nat → Int32) × (Nat → Nat → Int64)) => (WZ_Mmend cI cJ mv mr u.1 u.2.1 u.2.2))) E hr hlk (mi, (va_up mf 28 gmended_44), mg) hw45 ⟨(by show 0 ≤ (mi 1).toInt; have k_0 : ((-1) : Int32).toInt = -1 := (by decide +kernel); omega), (by show (mi 1).toInt ≤ 5; have k_0 : ((-1) : Int32).toInt = -1 := (by decide +kernel); omega), (by show 0 ≤ (mi 2).toInt; have k_0 : ((-1) : Int32).toInt = -1 := (by decide +kernel); omega), (by show (mi 2).toInt ≤ 6; have k_0 : ((-1) : Int32).toInt = -1 := (by decide +kernel); omega), (by show 0 ≤ (mi 19).toInt; have k_0 : ((-1) : Int32).toInt = -1 := (by decide +kernel); omega), (by show (mi 19).toInt ≤ 200; have k_0 : ((-1) : Int32).toInt = -1 := (by decide +kernel); omega), (by show 0 ≤ (mi 27).toInt; have k_0 : ((-1) : Int32).toInt = -1 := (by decide +kernel); omega), (by show (mi 27).toInt ≤ 10; have k_0 : ((-1) : Int32).toInt = -1 := (by decide +kernel); omega)⟩ (Nat.le_of_ble_eq_true rfl) (Nat.le_of_ble_eq_true rfl) dX11_mend_54
    · skip
      refine lv_if_ne (pc := 16) (tgt := 21) E.1 E.2.1 dX11_mend_16 (by decide) (fun c_53 => absurd (meqE (a := 0) (b := 0) (by decide +kernel) (by decide +kernel) (by omega)) c_53) (fun _ => ?_)
      refine lv_iconst (pc := 19) (v := (-1)) E.1 E.2.1 dX11_mend_19 (by decide +kernel) ?_
      exact em_i (w1 := (fun (u : (Nat → Int32) × (Nat → Nat → Int32) × (Nat → Nat → Int64)) => (WZ_Mmend cI cJ mv mr u.1 u.2.1 u.2.2))) E hr hlk (mi, mf, mg) hw34 ⟨(by show 0 ≤ (mi 1).toInt; have k_0 : ((-1) : Int32).toInt = -1 := (by decide +kernel); omega), (by show (mi 1).toInt ≤ 5; have k_0 : ((-1) : Int32).toInt = -1 := (by decide +kernel); omega), (by show 0 ≤ (mi 2).toInt; have k_0 : ((-1) : Int32).toInt = -1 := (by decide +kernel); omega), (by show (mi 2).toInt ≤ 6; have k_0 : ((-1) : Int32).toInt = -1 := (by decide +kernel); omega), (by show 0 ≤ (mi 19).toInt; have k_0 : ((-1) : Int32).toInt = -1 := (by decide +kernel); omega), (by show (mi 19).toInt ≤ 200; have k_0 : ((-1) : Int32).toInt = -1 := (by decide +kernel); omega), (by show 0 ≤ (mi 27).toInt; have k_0 : ((-1) : Int32).toInt = -1 := (by decide +kernel); omega), (by show (mi 27).toInt ≤ 10; have k_0 : ((-1) : Int32).toInt = -1 := (by decide +kernel); omega)⟩ (Nat.le_of_ble_eq_true rfl) (Nat.le_of_ble_eq_true rfl) dX11_mend_20
set_option maxHeartbeats 4000000 in
set_option maxRecDepth 100000 in
theorem t_sale (l : Launch) (D : va_G) (cI cJ : ClassId) (sz : Nat) (mr : Nat → Nat) (mi : Nat → Int32) (mf : Nat → Nat → Int32) (mg : Nat → Nat → Int64) (z_what : Int32) (mv : Nat → Value) (h0 : 0 ≤ (mi 1).toInt ∧ (mi 1).toInt ≤ 5) (h1 : 0 ≤ (mi 2).toInt ∧ (mi 2).toInt ≤ 6) (h2 : 0 ≤ (mi 14).toInt ∧ (mi 14).toInt ≤ 10) : Met l yX11_sale (Cond.code yX11_sale cX11_sale 4 (some .int) :: GW) ({ frames := 11, cells := 0, slots := 0, locals := 263 } : Room) (va_Pc [.ref (mr 0), .int z_what] (PW D cI cJ sz (WZ_Msale cI cJ mv mr mi mf mg) xT)) (va_Qi (fun (r : Int32) (u : (Nat → Int32) × (Nat → Nat → Int32) × (Nat → Nat → Int64)) => (0 ≤ (u.1 1).toInt) ∧ ((u.1 1).toInt ≤ 5) ∧ (0 ≤ (u.1 2).toInt) ∧ ((u.1 2).toInt ≤ 6) ∧ (0 ≤ (u.1 14).toInt) ∧ ((u.1 14).toInt ≤ 10)) (fun u => QW D cI cJ (va_A (WZ_Msale cI cJ mv mr mi mf mg) sz) ((fun (u : (Nat → Int32) × (Nat → Nat → Int32) × (Nat → Nat → Int64)) => (WZ_Msale cI cJ mv mr u.1 u.2.1 u.2.2)) u)) (va_A (WZ_Msale cI cJ mv mr mi mf mg) sz)) 0 0 (va_A (WZ_Msale cI cJ mv mr mi mf mg) sz) := by
  refine mk_met (y := yX11_sale) (bytes := cX11_sale) (maxL := 4) (avs := [.ref (mr 0), .int z_what]) (WS := (WZ_Msale cI cJ mv mr mi mf mg)) (Qf := fun A => va_Qi (fun (r : Int32) (u : (Nat → Int32) × (Nat → Nat → Int32) × (Nat → Nat → Int64)) => (0 ≤ (u.1 1).toInt) ∧ ((u.1 1).toInt ≤ 5) ∧ (0 ≤ (u.1 2).toInt) ∧ ((u.1 2).toInt ≤ 6) ∧ (0 ≤ (u.1 14).toInt) ∧ ((u.1 14).toInt ≤ 10)) (fun u => QW D cI cJ A ((fun (u : (Nat → Int32) × (Nat → Nat → Int32) × (Nat → Nat → Int64)) => (WZ_Msale cI cJ mv mr u.1 u.2.1 u.2.2)) u)) A) (by decide) (Nat.le_of_ble_eq_true rfl) ?_
  intro p e s m below meth c A ls E hr hlk hnm hX hw1 hl2
  have hl3 : lv_has ls 4 [(0, .ref (mr 0)), (1, .int z_what)] := hl2
  refine lv_iload_n (pc := 0) E.1 E.2.1 dX11_sale_0 rfl (lv_at hl3 1 rfl) ?_
  refine lv_if_eq (pc := 1) (tgt := 11) E.1 E.2.1 dX11_sale_1 (by decide) (fun c_4 => ?_) (fun c_4 => ?_)
  · skip
    have hc_4 := eqE (a := z_what.toInt) (b := 0) rfl (by decide +kernel) c_4
    refine lv_aload_n (pc := 11) E.1 E.2.1 dX11_sale_11 rfl (lv_at hl3 0 rfl) ?_
    refine x_get (pc := 12) (T := TX11) (N := 13) (ci := 11) (v := .ref (mr 3)) E hw1 inX11 0 0 q_606 rfl rfl (by decide) rfl rfl dX11_sale_12 ?_
    refine x_get (pc := 15) (T := TX10) (N := 17) (ci := 10) (v := .ref (mr 8)) E hw1 inX10 1 1 q_463 rfl rfl (by decide) rfl rfl dX11_sale_15 ?_
    refine lv_iconst (pc := 18) (v := (-1)) E.1 E.2.1 dX11_sale_18 (by decide +kernel) ?_
    refine cq_i (pc := 19) (ws' := (fun (u : Unit) => (WZ_Msale cI cJ mv mr mi mf mg))) hw1 [2, 3, 4, 5, 6, 7, 8, 9] [0, 1] [0, 1, 2, 3, 4, 5, 6, 7, 8, 9] rfl rfl (by decide) (by decide) (fun _ => rfl) (by decide) (rn_V (As := [.int (-1)]) (rest := []) E hw1 (t_highestBid l D cI cJ _ (ixf [8, 9, 10, 11, 12, 13, 14, 15, 16] mr) (ixf [8, 9, 10, 11, 12, 13, 14, 15, 16] mi) (ixf [8, 9, 10, 11, 12, 13, 14, 15, 16] mf) (ixf [8, 9, 10, 11, 12, 13, 14, 15, 16] mg) (-1) (vl [mv 22]) (by show 0 ≤ (mi 14).toInt ∧ (mi 14).toInt ≤ 10; omega)) (gdV q_1292 q_1293 q_1294 q_154 q_1295) hdV_X1_highestBid ⟨rfl, rfl⟩ ⟨(Nat.le_of_ble_eq_true rfl), (Nat.le_of_ble_eq_true rfl)⟩ ⟨(Nat.le_of_ble_eq_true rfl), (Nat.le_of_ble_eq_true rfl)⟩ xT_b xT_at 2 1 rfl rfl rfl [2, 3, 4, 5, 6, 7, 8, 9] rfl (by decide) rfl hl3.1 rfl (Nat.le_of_ble_eq_true rfl) dX11_sale_19) (fun r_6 u_5 H1 locs hp hw7 => ?_)
    generalize H1 = H at hw7 ⊢
    have hw8 : WD D A s.heap (WZ_Msale cI cJ mv mr mi mf mg) H locs := hw7
    obtain ⟨hp_9, hp_10⟩ := hp
    have hp_9 : (-1) ≤ r_6.toInt := hp_9
    have hp_10 : r_6.toInt + 1 ≤ (mi 14).toInt := hp_10
    refine lv_istore_n (pc := 22) (lv' := [(2, .int r_6), (0, .ref (mr 0)), (1, .int z_what)]) E.1 E.2.1 dX11_sale_22 rfl hl3 (by decide) rfl (fun ls hl11 => ?_)
    refine lv_iload_n (pc := 23) E.1 E.2.1 dX11_sale_23 rfl (lv_at hl11 0 rfl) ?_
    refine lv_iconst (pc := 24) (v := (-1)) E.1 E.2.1 dX11_sale_24 (by decide +kernel) ?_
    refine lv_icmp_eq (pc := 25) (tgt := 32) E.1 E.2.1 dX11_sale_25 (by decide) (fun c_12 => ?_) (fun c_12 => ?_)
    · skip
      have hc_12 := eqE (a := r_6.toInt) (b := (-1)) rfl (by decide +kernel) c_12
      refine lv_iload_n (pc := 32) E.1 E.2.1 dX11_sale_32 rfl (lv_at hl11 0 rfl) ?_
      exact em_i (w1 := (fun (u : (Nat → Int32) × (Nat → Nat → Int32) × (Nat → Nat → Int64)) => (WZ_Msale cI cJ mv mr u.1 u.2.1 u.2.2))) E hr hlk (mi, mf, mg) hw8 ⟨(by show 0 ≤ (mi 1).toInt; omega), (by show (mi 1).toInt ≤ 5; omega), (by show 0 ≤ (mi 2).toInt; omega), (by show (mi 2).toInt ≤ 6; omega), (by show 0 ≤ (mi 14).toInt; omega), (by show (mi 14).toInt ≤ 10; omega)⟩ (Nat.le_of_ble_eq_true rfl) (Nat.le_of_ble_eq_true rfl) dX11_sale_33
    · skip
      have hc_12 := neE (a := r_6.toInt) (b := (-1)) rfl (by decide +kernel) c_12
      refine lv_iload_n (pc := 28) E.1 E.2.1 dX11_sale_28 rfl (lv_at hl11 2 rfl) ?_
      refine lv_if_ne (pc := 29) (tgt := 34) E.1 E.2.1 dX11_sale_29 (by decide) (fun c_13 => absurd (meqE (a := z_what.toInt) (b := 0) rfl (by decide +kernel) (by omega)) c_13) (fun _ => ?_)
      refine lv_iload_n (pc := 32) E.1 E.2.1 dX11_sale_32 rfl (lv_at hl11 0 rfl) ?_
      exact em_i (w1 := (fun (u : (Nat → Int32) × (Nat → Nat → Int32) × (Nat → Nat → Int64)) => (WZ_Msale cI cJ mv mr u.1 u.2.1 u.2.2))) E hr hlk (mi, mf, mg) hw8 ⟨(by show 0 ≤ (mi 1).toInt; omega), (by show (mi 1).toInt ≤ 5; omega), (by show 0 ≤ (mi 2).toInt; omega), (by show (mi 2).toInt ≤ 6; omega), (by show 0 ≤ (mi 14).toInt; omega), (by show (mi 14).toInt ≤ 10; omega)⟩ (Nat.le_of_ble_eq_true rfl) (Nat.le_of_ble_eq_true rfl) dX11_sale_33
  · skip
    have hc_4 := neE (a := z_what.toInt) (b := 0) rfl (by decide +kernel) c_4
    refine lv_iload_n (pc := 4) E.1 E.2.1 dX11_sale_4 rfl (lv_at hl3 1 rfl) ?_
    refine lv_iconst (pc := 5) (v := 1) E.1 E.2.1 dX11_sale_5 (by decide +kernel) ?_
    refine lv_icmp_eq (pc := 6) (tgt := 11) E.1 E.2.1 dX11_sale_6 (by decide) (fun c_14 => ?_) (fun c_14 => ?_)
    · skip
      have hc_14 := eqE (a := z_what.toInt) (b := 1) rfl (by decide +kernel) c_14
      refine lv_aload_n (pc := 11) E.1 E.2.1 dX11_sale_11 rfl (lv_at hl3 0 rfl) ?_
      refine x_get (pc := 12) (T := TX11) (N := 13) (ci := 11) (v := .ref (mr 3)) E hw1 inX11 0 0 q_606 rfl rfl (by decide) rfl rfl dX11_sale_12 ?_
      refine x_get (pc := 15) (T := TX10) (N := 17) (ci := 10) (v := .ref (mr 8)) E hw1 inX10 1 1 q_463 rfl rfl (by decide) rfl rfl dX11_sale_15 ?_
      refine lv_iconst (pc := 18) (v := (-1)) E.1 E.2.1 dX11_sale_18 (by decide +kernel) ?_
      refine cq_i (pc := 19) (ws' := (fun (u : Unit) => (WZ_Msale cI cJ mv mr mi mf mg))) hw1 [2, 3, 4, 5, 6, 7, 8, 9] [0, 1] [0, 1, 2, 3, 4, 5, 6, 7, 8, 9] rfl rfl (by decide) (by decide) (fun _ => rfl) (by decide) (rn_V (As := [.int (-1)]) (rest := []) E hw1 (t_highestBid l D cI cJ _ (ixf [8, 9, 10, 11, 12, 13, 14, 15, 16] mr) (ixf [8, 9, 10, 11, 12, 13, 14, 15, 16] mi) (ixf [8, 9, 10, 11, 12, 13, 14, 15, 16] mf) (ixf [8, 9, 10, 11, 12, 13, 14, 15, 16] mg) (-1) (vl [mv 22]) (by show 0 ≤ (mi 14).toInt ∧ (mi 14).toInt ≤ 10; omega)) (gdV q_1292 q_1293 q_1294 q_154 q_1295) hdV_X1_highestBid ⟨rfl, rfl⟩ ⟨(Nat.le_of_ble_eq_true rfl), (Nat.le_of_ble_eq_true rfl)⟩ ⟨(Nat.le_of_ble_eq_true rfl), (Nat.le_of_ble_eq_true rfl)⟩ xT_b xT_at 2 1 rfl rfl rfl [2, 3, 4, 5, 6, 7, 8, 9] rfl (by decide) rfl hl3.1 rfl (Nat.le_of_ble_eq_true rfl) dX11_sale_19) (fun r_16 u_15 H1 locs hp hw17 => ?_)
      generalize H1 = H at hw17 ⊢
      have hw18 : WD D A s.heap (WZ_Msale cI cJ mv mr mi mf mg) H locs := hw17
      obtain ⟨hp_19, hp_20⟩ := hp
      have hp_19 : (-1) ≤ r_16.toInt := hp_19
      have hp_20 : r_16.toInt + 1 ≤ (mi 14).toInt := hp_20
      refine lv_istore_n (pc := 22) (lv' := [(2, .int r_16), (0, .ref (mr 0)), (1, .int z_what)]) E.1 E.2.1 dX11_sale_22 rfl hl3 (by decide) rfl (fun ls hl21 => ?_)
      refine lv_iload_n (pc := 23) E.1 E.2.1 dX11_sale_23 rfl (lv_at hl21 0 rfl) ?_
      refine lv_iconst (pc := 24) (v := (-1)) E.1 E.2.1 dX11_sale_24 (by decide +kernel) ?_
      refine lv_icmp_eq (pc := 25) (tgt := 32) E.1 E.2.1 dX11_sale_25 (by decide) (fun c_22 => ?_) (fun c_22 => ?_)
      · skip
        have hc_22 := eqE (a := r_16.toInt) (b := (-1)) rfl (by decide +kernel) c_22
        refine lv_iload_n (pc := 32) E.1 E.2.1 dX11_sale_32 rfl (lv_at hl21 0 rfl) ?_
        exact em_i (w1 := (fun (u : (Nat → Int32) × (Nat → Nat → Int32) × (Nat → Nat → Int64)) => (WZ_Msale cI cJ mv mr u.1 u.2.1 u.2.2))) E hr hlk (mi, mf, mg) hw18 ⟨(by show 0 ≤ (mi 1).toInt; omega), (by show (mi 1).toInt ≤ 5; omega), (by show 0 ≤ (mi 2).toInt; omega), (by show (mi 2).toInt ≤ 6; omega), (by show 0 ≤ (mi 14).toInt; omega), (by show (mi 14).toInt ≤ 10; omega)⟩ (Nat.le_of_ble_eq_true rfl) (Nat.le_of_ble_eq_true rfl) dX11_sale_33
      · skip
        have hc_22 := neE (a := r_16.toInt) (b := (-1)) rfl (by decide +kernel) c_22
        refine lv_iload_n (pc := 28) E.1 E.2.1 dX11_sale_28 rfl (lv_at hl21 2 rfl) ?_
        refine lv_if_ne (pc := 29) (tgt := 34) E.1 E.2.1 dX11_sale_29 (by decide) (fun _ => ?_) (fun c_23 => absurd c_23 (mneE (a := z_what.toInt) (b := 0) rfl (by decide +kernel) (by omega)))
        refine lv_aload_n (pc := 34) E.1 E.2.1 dX11_sale_34 rfl (lv_at hl21 1 rfl) ?_
        refine x_get (pc := 35) (T := TX11) (N := 13) (ci := 11) (v := .ref (mr 3)) E hw18 inX11 0 0 q_606 rfl rfl (by decide) rfl rfl dX11_sale_35 ?_
        refine x_get (pc := 38) (T := TX10) (N := 17) (ci := 10) (v := .ref (mr 8)) E hw18 inX10 1 1 q_463 rfl rfl (by decide) rfl rfl dX11_sale_38 ?_
        refine lv_iload_n (pc := 41) E.1 E.2.1 dX11_sale_41 rfl (lv_at hl21 0 rfl) ?_
        refine cq_i (pc := 42) (ws' := (fun (u : Unit) => (WZ_Msale cI cJ mv mr mi mf mg))) hw18 [2, 3, 4, 5, 6, 7, 8, 9] [0, 1] [0, 1, 2, 3, 4, 5, 6, 7, 8, 9] rfl rfl (by decide) (by decide) (fun _ => rfl) (by decide) (rn_V (As := [.int r_16]) (rest := []) E hw18 (t_highestBid l D cI cJ _ (ixf [8, 9, 10, 11, 12, 13, 14, 15, 16] mr) (ixf [8, 9, 10, 11, 12, 13, 14, 15, 16] mi) (ixf [8, 9, 10, 11, 12, 13, 14, 15, 16] mf) (ixf [8, 9, 10, 11, 12, 13, 14, 15, 16] mg) r_16 (vl [mv 22]) (by show 0 ≤ (mi 14).toInt ∧ (mi 14).toInt ≤ 10; omega)) (gdV q_1292 q_1293 q_1294 q_154 q_1295) hdV_X1_highestBid ⟨rfl, rfl⟩ ⟨(Nat.le_of_ble_eq_true rfl), (Nat.le_of_ble_eq_true rfl)⟩ ⟨(Nat.le_of_ble_eq_true rfl), (Nat.le_of_ble_eq_true rfl)⟩ xT_b xT_at 2 1 rfl rfl rfl [2, 3, 4, 5, 6, 7, 8, 9] rfl (by decide) rfl hl21.1 rfl (Nat.le_of_ble_eq_true rfl) dX11_sale_42) (fun r_25 u_24 H1 locs hp hw26 => ?_)
        generalize H1 = H at hw26 ⊢
        have hw27 : WD D A s.heap (WZ_Msale cI cJ mv mr mi mf mg) H locs := hw26
        obtain ⟨hp_28, hp_29⟩ := hp
        have hp_28 : (-1) ≤ r_25.toInt := hp_28
        have hp_29 : r_25.toInt + 1 ≤ (mi 14).toInt := hp_29
        refine lv_istore_n (pc := 45) (lv' := [(3, .int r_25), (2, .int r_16), (0, .ref (mr 0)), (1, .int z_what)]) E.1 E.2.1 dX11_sale_45 rfl hl21 (by decide) rfl (fun ls hl30 => ?_)
        refine lv_iload_n (pc := 46) E.1 E.2.1 dX11_sale_46 rfl (lv_at hl30 0 rfl) ?_
        refine lv_iconst (pc := 47) (v := (-1)) E.1 E.2.1 dX11_sale_47 (by decide +kernel) ?_
        refine lv_icmp_ne (pc := 48) (tgt := 55) E.1 E.2.1 dX11_sale_48 (by decide) (fun c_31 => ?_) (fun c_31 => ?_)
        · skip
          have hc_31 := neE (a := r_25.toInt) (b := (-1)) rfl (by decide +kernel) c_31
          refine lv_aload_n (pc := 55) E.1 E.2.1 dX11_sale_55 rfl (lv_at hl30 2 rfl) ?_
          refine x_get (pc := 56) (T := TX11) (N := 13) (ci := 11) (v := .ref (mr 3)) E hw27 inX11 0 0 q_606 rfl rfl (by decide) rfl rfl dX11_sale_56 ?_
          refine x_get (pc := 59) (T := TX10) (N := 17) (ci := 10) (v := .ref (mr 8)) E hw27 inX10 1 1 q_463 rfl rfl (by decide) rfl rfl dX11_sale_59 ?_
          refine x_get (pc := 62) (T := TX1) (N := 9) (ci := 1) (v := .ref (mr 11)) E hw27 inX1 2 2 q_273 rfl rfl (by decide) rfl rfl dX11_sale_62 ?_
          refine lv_iload_n (pc := 65) E.1 E.2.1 dX11_sale_65 rfl (lv_at hl30 0 rfl) ?_
          refine x_iald (pc := 66) (f := (mf 11)) E hw27 5 rfl (inbE (a := r_25.toInt) rfl (by omega)) dX11_sale_66 ?_
          refine lv_topi (fun v_32 ev_32 => ?_)
          exact em_i (w1 := (fun (u : (Nat → Int32) × (Nat → Nat → Int32) × (Nat → Nat → Int64)) => (WZ_Msale cI cJ mv mr u.1 u.2.1 u.2.2))) E hr hlk (mi, mf, mg) hw27 ⟨(by show 0 ≤ (mi 1).toInt; omega), (by show (mi 1).toInt ≤ 5; omega), (by show 0 ≤ (mi 2).toInt; omega), (by show (mi 2).toInt ≤ 6; omega), (by show 0 ≤ (mi 14).toInt; omega), (by show (mi 14).toInt ≤ 10; omega)⟩ (Nat.le_of_ble_eq_true rfl) (Nat.le_of_ble_eq_true rfl) dX11_sale_67
        · skip
          have hc_31 := eqE (a := r_25.toInt) (b := (-1)) rfl (by decide +kernel) c_31
          refine lv_iconst (pc := 51) (v := 0) E.1 E.2.1 dX11_sale_51 (by decide +kernel) ?_
          refine lv_goto (pc := 52) (tgt := 67) E.1 E.2.1 dX11_sale_52 (by decide) ?_
          exact em_i (w1 := (fun (u : (Nat → Int32) × (Nat → Nat → Int32) × (Nat → Nat → Int64)) => (WZ_Msale cI cJ mv mr u.1 u.2.1 u.2.2))) E hr hlk (mi, mf, mg) hw27 ⟨(by show 0 ≤ (mi 1).toInt; have k_0 : (0 : Int32).toInt = 0 := (by decide +kernel); omega), (by show (mi 1).toInt ≤ 5; have k_0 : (0 : Int32).toInt = 0 := (by decide +kernel); omega), (by show 0 ≤ (mi 2).toInt; have k_0 : (0 : Int32).toInt = 0 := (by decide +kernel); omega), (by show (mi 2).toInt ≤ 6; have k_0 : (0 : Int32).toInt = 0 := (by decide +kernel); omega), (by show 0 ≤ (mi 14).toInt; have k_0 : (0 : Int32).toInt = 0 := (by decide +kernel); omega), (by show (mi 14).toInt ≤ 10; have k_0 : (0 : Int32).toInt = 0 := (by decide +kernel); omega)⟩ (Nat.le_of_ble_eq_true rfl) (Nat.le_of_ble_eq_true rfl) dX11_sale_67
    · skip
      have hc_14 := neE (a := z_what.toInt) (b := 1) rfl (by decide +kernel) c_14
      refine lv_iconst (pc := 9) (v := (-1)) E.1 E.2.1 dX11_sale_9 (by decide +kernel) ?_
      exact em_i (w1 := (fun (u : (Nat → Int32) × (Nat → Nat → Int32) × (Nat → Nat → Int64)) => (WZ_Msale cI cJ mv mr u.1 u.2.1 u.2.2))) E hr hlk (mi, mf, mg) hw1 ⟨(by show 0 ≤ (mi 1).toInt; have k_0 : ((-1) : Int32).toInt = -1 := (by decide +kernel); omega), (by show (mi 1).toInt ≤ 5; have k_0 : ((-1) : Int32).toInt = -1 := (by decide +kernel); omega), (by show 0 ≤ (mi 2).toInt; have k_0 : ((-1) : Int32).toInt = -1 := (by decide +kernel); omega), (by show (mi 2).toInt ≤ 6; have k_0 : ((-1) : Int32).toInt = -1 := (by decide +kernel); omega), (by show 0 ≤ (mi 14).toInt; have k_0 : ((-1) : Int32).toInt = -1 := (by decide +kernel); omega), (by show (mi 14).toInt ≤ 10; have k_0 : ((-1) : Int32).toInt = -1 := (by decide +kernel); omega)⟩ (Nat.le_of_ble_eq_true rfl) (Nat.le_of_ble_eq_true rfl) dX11_sale_10
set_option maxHeartbeats 4000000 in
set_option maxRecDepth 100000 in
theorem t_liars (l : Launch) (D : va_G) (cI cJ : ClassId) (sz : Nat) (mr : Nat → Nat) (mi : Nat → Int32) (mf : Nat → Nat → Int32) (mg : Nat → Nat → Int64)  (mv : Nat → Value) (h0 : 0 ≤ (mi 1).toInt ∧ (mi 1).toInt ≤ 5) (h1 : 0 ≤ (mi 2).toInt ∧ (mi 2).toInt ≤ 6) (h2 : 0 ≤ (mi 19).toInt ∧ (mi 19).toInt ≤ 200) (h3 : 0 ≤ (mi 27).toInt ∧ (mi 27).toInt ≤ 10) : Met l yX11_liars (Cond.code yX11_liars cX11_liars 3 (some .int) :: GW) ({ frames := 11, cells := 0, slots := 0, locals := 263 } : Room) (va_Pc [.ref (mr 0)] (PW D cI cJ sz (WZ_Mmend cI cJ mv mr mi mf mg) xT)) (va_Qi (fun (r : Int32) (u : (Nat → Int32) × (Nat → Nat → Int32) × (Nat → Nat → Int64)) => (0 ≤ (u.1 1).toInt) ∧ ((u.1 1).toInt ≤ 5) ∧ (0 ≤ (u.1 2).toInt) ∧ ((u.1 2).toInt ≤ 6) ∧ (0 ≤ (u.1 19).toInt) ∧ ((u.1 19).toInt ≤ 200) ∧ (0 ≤ (u.1 27).toInt) ∧ ((u.1 27).toInt ≤ 10)) (fun u => QW D cI cJ (va_A (WZ_Mmend cI cJ mv mr mi mf mg) sz) ((fun (u : (Nat → Int32) × (Nat → Nat → Int32) × (Nat → Nat → Int64)) => (WZ_Mmend cI cJ mv mr u.1 u.2.1 u.2.2)) u)) (va_A (WZ_Mmend cI cJ mv mr mi mf mg) sz)) 0 0 (va_A (WZ_Mmend cI cJ mv mr mi mf mg) sz) := by
  refine mk_met (y := yX11_liars) (bytes := cX11_liars) (maxL := 3) (avs := [.ref (mr 0)]) (WS := (WZ_Mmend cI cJ mv mr mi mf mg)) (Qf := fun A => va_Qi (fun (r : Int32) (u : (Nat → Int32) × (Nat → Nat → Int32) × (Nat → Nat → Int64)) => (0 ≤ (u.1 1).toInt) ∧ ((u.1 1).toInt ≤ 5) ∧ (0 ≤ (u.1 2).toInt) ∧ ((u.1 2).toInt ≤ 6) ∧ (0 ≤ (u.1 19).toInt) ∧ ((u.1 19).toInt ≤ 200) ∧ (0 ≤ (u.1 27).toInt) ∧ ((u.1 27).toInt ≤ 10)) (fun u => QW D cI cJ A ((fun (u : (Nat → Int32) × (Nat → Nat → Int32) × (Nat → Nat → Int64)) => (WZ_Mmend cI cJ mv mr u.1 u.2.1 u.2.2)) u)) A) (by decide) (Nat.le_of_ble_eq_true rfl) ?_
  intro p e s m below meth c A ls E hr hlk hnm hX hw1 hl2
  have hl3 : lv_has ls 3 [(0, .ref (mr 0))] := hl2
  refine lv_iconst (pc := 0) (v := 0) E.1 E.2.1 dX11_liars_0 (by decide +kernel) ?_
  refine lv_istore_n (pc := 1) (lv' := [(1, .int 0), (0, .ref (mr 0))]) E.1 E.2.1 dX11_liars_1 rfl hl3 (by decide) rfl (fun ls hl4 => ?_)
  refine lv_iconst (pc := 2) (v := 0) E.1 E.2.1 dX11_liars_2 (by decide +kernel) ?_
  refine lv_istore_n (pc := 3) (lv' := [(2, .int 0), (1, .int 0), (0, .ref (mr 0))]) E.1 E.2.1 dX11_liars_3 rfl hl4 (by decide) rfl (fun ls hl5 => ?_)
  have loop_6 : ∀ (k : Nat) (x_7 : Int32) (x_8 : Int32) (H : Heap) (locs : List Loc) (ls : Array Slot), (0 ≤ x_8.toInt) ∧ (x_8.toInt ≤ (mi 27).toInt) → (mi 27).toInt - x_8.toInt < (k : Int) → WD D A s.heap (WZ_Mmend cI cJ mv mr mi mf mg) H locs → lv_has ls 3 [(2, .int x_8), (1, .int x_7), (0, .ref (mr 0))] → W p l e ({ frames := 11, cells := 0, slots := 0, locals := 263 } : Room) s m ([.ref (mr 0)] : List Value).toArray below meth c H locs 0 0 (MQ below (va_Qi (fun (r : Int32) (u : (Nat → Int32) × (Nat → Nat → Int32) × (Nat → Nat → Int64)) => (0 ≤ (u.1 1).toInt) ∧ ((u.1 1).toInt ≤ 5) ∧ (0 ≤ (u.1 2).toInt) ∧ ((u.1 2).toInt ≤ 6) ∧ (0 ≤ (u.1 19).toInt) ∧ ((u.1 19).toInt ≤ 200) ∧ (0 ≤ (u.1 27).toInt) ∧ ((u.1 27).toInt ≤ 10)) (fun u => QW D cI cJ A ((fun (u : (Nat → Int32) × (Nat → Nat → Int32) × (Nat → Nat → Int64)) => (WZ_Mmend cI cJ mv mr u.1 u.2.1 u.2.2)) u)) A) ([.ref (mr 0)] : List Value).toArray s 0 0 A) (F0 m 4 ls []) := by
    intro k
    induction k with
    | zero =>
      intro x_7 x_8 _ _ _ hinv hm
      obtain ⟨hi_8_0, hi_8_1⟩ := hinv
      exact absurd hm (by omega)
    | succ k ih_9 =>
      intro x_7 x_8 H locs ls hinv hm hw10 hl11
      obtain ⟨hi_8_0, hi_8_1⟩ := hinv
      refine lv_iload_n (pc := 4) E.1 E.2.1 dX11_liars_4 rfl (lv_at hl11 0 rfl) ?_
      refine lv_aload_n (pc := 5) E.1 E.2.1 dX11_liars_5 rfl (lv_at hl11 2 rfl) ?_
      refine x_get (pc := 6) (T := TX11) (N := 13) (ci := 11) (v := .ref (mr 3)) E hw10 inX11 0 0 q_606 rfl rfl (by decide) rfl rfl dX11_liars_6 ?_
      refine x_get (pc := 9) (T := TX10) (N := 17) (ci := 10) (v := .ref (mr 21)) E hw10 inX10 1 1 q_463 rfl rfl (by decide) rfl rfl dX11_liars_9 ?_
      refine x_get (pc := 12) (T := TX1) (N := 9) (ci := 1) (v := .int (mi 27)) E hw10 inX1 8 5 q_282 rfl rfl (by decide) rfl rfl dX11_liars_12 ?_
      refine lv_icmp_ge (pc := 15) (tgt := 63) E.1 E.2.1 dX11_liars_15 (by decide) (fun c_12 => ?_) (fun c_12 => ?_)
      · skip
        have hc_12 := leE (a := (mi 27).toInt) (b := x_8.toInt) rfl rfl c_12
        refine lv_iload_n (pc := 63) E.1 E.2.1 dX11_liars_63 rfl (lv_at hl11 1 rfl) ?_
        exact em_i (w1 := (fun (u : (Nat → Int32) × (Nat → Nat → Int32) × (Nat → Nat → Int64)) => (WZ_Mmend cI cJ mv mr u.1 u.2.1 u.2.2))) E hr hlk (mi, mf, mg) hw10 ⟨(by show 0 ≤ (mi 1).toInt; omega), (by show (mi 1).toInt ≤ 5; omega), (by show 0 ≤ (mi 2).toInt; omega), (by show (mi 2).toInt ≤ 6; omega), (by show 0 ≤ (mi 19).toInt; omega), (by show (mi 19).toInt ≤ 200; omega), (by show 0 ≤ (mi 27).toInt; omega), (by show (mi 27).toInt ≤ 10; omega)⟩ (Nat.le_of_ble_eq_true rfl) (Nat.le_of_ble_eq_true rfl) dX11_liars_64
      · skip
        have hc_12 := nleE (a := (mi 27).toInt) (b := x_8.toInt) rfl rfl c_12
        refine lv_iload_n (pc := 18) E.1 E.2.1 dX11_liars_18 rfl (lv_at hl11 0 rfl) ?_
        refine lv_bipush (pc := 19) (v := 10) E.1 E.2.1 dX11_liars_19 (by decide +kernel) ?_
        refine lv_icmp_ge (pc := 21) (tgt := 63) E.1 E.2.1 dX11_liars_21 (by decide) (fun c_13 => absurd c_13 (mnleE (a := 10) (b := x_8.toInt) (by decide +kernel) rfl (by omega))) (fun _ => ?_)
        refine lv_aload_n (pc := 24) E.1 E.2.1 dX11_liars_24 rfl (lv_at hl11 2 rfl) ?_
        refine x_get (pc := 25) (T := TX11) (N := 13) (ci := 11) (v := .ref (mr 3)) E hw10 inX11 0 0 q_606 rfl rfl (by decide) rfl rfl dX11_liars_25 ?_
        refine x_get (pc := 28) (T := TX10) (N := 17) (ci := 10) (v := .ref (mr 21)) E hw10 inX10 1 1 q_463 rfl rfl (by decide) rfl rfl dX11_liars_28 ?_
        refine x_get (pc := 31) (T := TX1) (N := 9) (ci := 1) (v := .ref (mr 25)) E hw10 inX1 8 3 q_276 rfl rfl (by decide) rfl rfl dX11_liars_31 ?_
        refine lv_iload_n (pc := 34) E.1 E.2.1 dX11_liars_34 rfl (lv_at hl11 0 rfl) ?_
        refine x_iald (pc := 35) (f := (mf 25)) E hw10 12 rfl (inbE (a := x_8.toInt) rfl (by omega)) dX11_liars_35 ?_
        refine lv_topi (fun v_14 ev_14 => ?_)
        refine lv_aload_n (pc := 36) E.1 E.2.1 dX11_liars_36 rfl (lv_at hl11 2 rfl) ?_
        refine x_get (pc := 37) (T := TX11) (N := 13) (ci := 11) (v := .ref (mr 3)) E hw10 inX11 0 0 q_606 rfl rfl (by decide) rfl rfl dX11_liars_37 ?_
        refine x_get (pc := 40) (T := TX10) (N := 17) (ci := 10) (v := .ref (mr 8)) E hw10 inX10 1 0 q_458 rfl rfl (by decide) rfl rfl dX11_liars_40 ?_
        refine x_get (pc := 43) (T := TX4) (N := 12) (ci := 4) (v := .ref (mr 11)) E hw10 inX4 2 2 q_199 rfl rfl (by decide) rfl rfl dX11_liars_43 ?_
        refine lv_iload_n (pc := 46) E.1 E.2.1 dX11_liars_46 rfl (lv_at hl11 0 rfl) ?_
        refine x_iald (pc := 47) (f := (mf 11)) E hw10 5 rfl (inbE (a := x_8.toInt) rfl (by omega)) dX11_liars_47 ?_
        refine lv_topi (fun v_15 ev_15 => ?_)
        refine lv_icmp_eq (pc := 48) (tgt := 57) E.1 E.2.1 dX11_liars_48 (by decide) (fun c_16 => ?_) (fun c_16 => ?_)
        · skip
          have hc_16 := eqE (a := v_14.toInt) (b := v_15.toInt) rfl rfl c_16
          obtain ⟨v_17, ev_17⟩ : ∃ z : Int32, x_8 + Int32.ofInt (1) = z := ⟨_, rfl⟩
          have hv_17 : v_17.toInt = x_8.toInt + (1) := by rw [← ev_17]; exact incE rfl (by decide) (by omega)
          refine lv_iinc (pc := 57) (v := v_17) (lv' := [(2, .int v_17), (1, .int x_7), (0, .ref (mr 0))]) E.1 E.2.1 dX11_liars_57 hl11 (k := 0) rfl ev_17 (by decide) rfl (fun ls hl18 => ?_)
          refine lv_goto (pc := 60) (tgt := 4) E.1 E.2.1 dX11_liars_60 (by decide) ?_
          exact ih_9 x_7 v_17 _ _ _ ⟨(by show 0 ≤ v_17.toInt; omega), (by show v_17.toInt ≤ (mi 27).toInt; omega)⟩ (by omega) hw10 (lv_sub hl18 [0, 1, 2] rfl)
        · skip
          have hc_16 := neE (a := v_14.toInt) (b := v_15.toInt) rfl rfl c_16
          refine lv_iload_n (pc := 51) E.1 E.2.1 dX11_liars_51 rfl (lv_at hl11 1 rfl) ?_
          refine lv_iconst (pc := 52) (v := 1) E.1 E.2.1 dX11_liars_52 (by decide +kernel) ?_
          refine lv_iload_n (pc := 53) E.1 E.2.1 dX11_liars_53 rfl (lv_at hl11 0 rfl) ?_
          refine lv_ishl (pc := 54) E.1 E.2.1 dX11_liars_54 ?_
          refine lv_topi (fun v_19 ev_19 => ?_)
          have hb1v_19 : 1 ≤ v_19.toInt ∧ v_19.toInt ≤ 512 := by rw [ev_19]; exact shl9 (by omega)
          refine lv_ior (pc := 55) E.1 E.2.1 dX11_liars_55 ?_
          refine lv_topi (fun v_20 ev_20 => ?_)
          refine lv_istore_n (pc := 56) (lv' := [(1, .int v_20), (2, .int x_8), (0, .ref (mr 0))]) E.1 E.2.1 dX11_liars_56 rfl hl11 (by decide) rfl (fun ls hl21 => ?_)
          obtain ⟨v_22, ev_22⟩ : ∃ z : Int32, x_8 + Int32.ofInt (1) = z := ⟨_, rfl⟩
          have hv_22 : v_22.toInt = x_8.toInt + (1) := by rw [← ev_22]; exact incE rfl (by decide) (by omega)
          refine lv_iinc (pc := 57) (v := v_22) (lv' := [(2, .int v_22), (1, .int v_20), (0, .ref (mr 0))]) E.1 E.2.1 dX11_liars_57 hl21 (k := 1) rfl ev_22 (by decide) rfl (fun ls hl23 => ?_)
          refine lv_goto (pc := 60) (tgt := 4) E.1 E.2.1 dX11_liars_60 (by decide) ?_
          exact ih_9 v_20 v_22 _ _ _ ⟨(by show 0 ≤ v_22.toInt; omega), (by show v_22.toInt ≤ (mi 27).toInt; omega)⟩ (by omega) hw10 (lv_sub hl23 [0, 1, 2] rfl)
  exact loop_6 (Int.toNat ((mi 27).toInt - 0) + 1) 0 0 _ _ _ ⟨(by show 0 ≤ (0 : Int32).toInt; have k_0 : (0 : Int32).toInt = 0 := (by decide +kernel); omega), (by show (0 : Int32).toInt ≤ (mi 27).toInt; have k_0 : (0 : Int32).toInt = 0 := (by decide +kernel); omega)⟩ (by have k_0 : (0 : Int32).toInt = 0 := (by decide +kernel); have k_1 : (0 : Int32).toInt = 0 := (by decide +kernel); omega) hw1 (lv_sub hl5 [0, 1, 2] rfl)
