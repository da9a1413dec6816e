set_option maxHeartbeats 4000000 in
set_option maxRecDepth 100000 in
theorem t_book (l : Launch) (D : va_G) (cI cJ : ClassId) (sz : Nat) (mr : Nat → Nat) (mi : Nat → Int32) (mf : Nat → Nat → Int32) (mg : Nat → Nat → Int64) (z_i : Int32) (z_what : Int32) (mv : Nat → Value) (h0 : 0 ≤ (mi 1).toInt ∧ (mi 1).toInt ≤ 5) (h1 : 0 ≤ (mi 2).toInt ∧ (mi 2).toInt ≤ 6) (h2 : 0 ≤ (mi 7).toInt ∧ (mi 7).toInt ≤ 99) (h3 : (-1) ≤ (mi 11).toInt ∧ (mi 11).toInt ≤ 9) (h4 : 0 ≤ (mi 12).toInt ∧ (mi 12).toInt ≤ 9999) (h5 : 0 ≤ (mi 15).toInt ∧ (mi 15).toInt ≤ 200) : Met l yX11_book (Cond.code yX11_book cX11_book 3 (some .int) :: GW) ({ frames := 11, cells := 0, slots := 0, locals := 263 } : Room) (va_Pc [.ref (mr 0), .int z_i, .int z_what] (PW D cI cJ sz (WZ_Mbook cI cJ mv mr mi mf mg) xT)) (va_Qi (fun (r : Int32) (u : (Nat → Int32) × (Nat → Nat → Int32) × (Nat → Nat → Int64)) => (0 ≤ (u.1 1).toInt) ∧ ((u.1 1).toInt ≤ 5) ∧ (0 ≤ (u.1 2).toInt) ∧ ((u.1 2).toInt ≤ 6) ∧ (0 ≤ (u.1 7).toInt) ∧ ((u.1 7).toInt ≤ 99) ∧ ((-1) ≤ (u.1 11).toInt) ∧ ((u.1 11).toInt ≤ 9) ∧ (0 ≤ (u.1 12).toInt) ∧ ((u.1 12).toInt ≤ 9999) ∧ (0 ≤ (u.1 15).toInt) ∧ ((u.1 15).toInt ≤ 200) ∧ ((u.1 12).toInt = (mi 12).toInt) ∧ ((u.1 2).toInt = (mi 2).toInt) ∧ ((u.1 1).toInt = (mi 1).toInt) ∧ ((u.1 11).toInt = (mi 11).toInt)) (fun u => QW D cI cJ (va_A (WZ_Mbook cI cJ mv mr mi mf mg) sz) ((fun (u : (Nat → Int32) × (Nat → Nat → Int32) × (Nat → Nat → Int64)) => (WZ_Mbook cI cJ mv mr u.1 u.2.1 u.2.2)) u)) (va_A (WZ_Mbook cI cJ mv mr mi mf mg) sz)) 0 0 (va_A (WZ_Mbook cI cJ mv mr mi mf mg) sz) := by
  refine mk_met (y := yX11_book) (bytes := cX11_book) (maxL := 3) (avs := [.ref (mr 0), .int z_i, .int z_what]) (WS := (WZ_Mbook cI cJ mv mr mi mf mg)) (Qf := fun A => va_Qi (fun (r : Int32) (u : (Nat → Int32) × (Nat → Nat → Int32) × (Nat → Nat → Int64)) => (0 ≤ (u.1 1).toInt) ∧ ((u.1 1).toInt ≤ 5) ∧ (0 ≤ (u.1 2).toInt) ∧ ((u.1 2).toInt ≤ 6) ∧ (0 ≤ (u.1 7).toInt) ∧ ((u.1 7).toInt ≤ 99) ∧ ((-1) ≤ (u.1 11).toInt) ∧ ((u.1 11).toInt ≤ 9) ∧ (0 ≤ (u.1 12).toInt) ∧ ((u.1 12).toInt ≤ 9999) ∧ (0 ≤ (u.1 15).toInt) ∧ ((u.1 15).toInt ≤ 200) ∧ ((u.1 12).toInt = (mi 12).toInt) ∧ ((u.1 2).toInt = (mi 2).toInt) ∧ ((u.1 1).toInt = (mi 1).toInt) ∧ ((u.1 11).toInt = (mi 11).toInt)) (fun u => QW D cI cJ A ((fun (u : (Nat → Int32) × (Nat → Nat → Int32) × (Nat → Nat → Int64)) => (WZ_Mbook cI cJ mv mr u.1 u.2.1 u.2.2)) u)) A) (by decide) (Nat.le_of_ble_eq_true rfl) ?_
  intro p e s m below meth c A ls E hr hlk hnm hX hw1 hl2
  have hl3 : lv_has ls 3 [(0, .ref (mr 0)), (1, .int z_i), (2, .int z_what)] := hl2
  refine lv_iload_n (pc := 0) E.1 E.2.1 dX11_book_0 rfl (lv_at hl3 1 rfl) ?_
  refine lv_if_lt (pc := 1) (tgt := 35) E.1 E.2.1 dX11_book_1 (by decide) (fun c_4 => ?_) (fun c_4 => ?_)
  · skip
    have hc_4 := ltE (a := z_i.toInt) (b := 0) rfl (by decide +kernel) c_4
    refine lv_iconst (pc := 35) (v := (-1)) E.1 E.2.1 dX11_book_35 (by decide +kernel) ?_
    exact em_i (w1 := (fun (u : (Nat → Int32) × (Nat → Nat → Int32) × (Nat → Nat → Int64)) => (WZ_Mbook cI cJ mv mr u.1 u.2.1 u.2.2))) E hr hlk (mi, mf, mg) hw1 ⟨(by show 0 ≤ (mi 1).toInt; have k_0 : ((-1) : Int32).toInt = -1 := (by decide +kernel); omega), (by show (mi 1).toInt ≤ 5; have k_0 : ((-1) : Int32).toInt = -1 := (by decide +kernel); omega), (by show 0 ≤ (mi 2).toInt; have k_0 : ((-1) : Int32).toInt = -1 := (by decide +kernel); omega), (by show (mi 2).toInt ≤ 6; have k_0 : ((-1) : Int32).toInt = -1 := (by decide +kernel); omega), (by show 0 ≤ (mi 7).toInt; have k_0 : ((-1) : Int32).toInt = -1 := (by decide +kernel); omega), (by show (mi 7).toInt ≤ 99; have k_0 : ((-1) : Int32).toInt = -1 := (by decide +kernel); omega), (by show (-1) ≤ (mi 11).toInt; have k_0 : ((-1) : Int32).toInt = -1 := (by decide +kernel); omega), (by show (mi 11).toInt ≤ 9; have k_0 : ((-1) : Int32).toInt = -1 := (by decide +kernel); omega), (by show 0 ≤ (mi 12).toInt; have k_0 : ((-1) : Int32).toInt = -1 := (by decide +kernel); omega), (by show (mi 12).toInt ≤ 9999; have k_0 : ((-1) : Int32).toInt = -1 := (by decide +kernel); omega), (by show 0 ≤ (mi 15).toInt; have k_0 : ((-1) : Int32).toInt = -1 := (by decide +kernel); omega), (by show (mi 15).toInt ≤ 200; have k_0 : ((-1) : Int32).toInt = -1 := (by decide +kernel); omega), (by show (mi 12).toInt = (mi 12).toInt; have k_0 : ((-1) : Int32).toInt = -1 := (by decide +kernel); omega), (by show (mi 2).toInt = (mi 2).toInt; have k_0 : ((-1) : Int32).toInt = -1 := (by decide +kernel); omega), (by show (mi 1).toInt = (mi 1).toInt; have k_0 : ((-1) : Int32).toInt = -1 := (by decide +kernel); omega), (by show (mi 11).toInt = (mi 11).toInt; have k_0 : ((-1) : Int32).toInt = -1 := (by decide +kernel); omega)⟩ (Nat.le_of_ble_eq_true rfl) (Nat.le_of_ble_eq_true rfl) dX11_book_36
  · skip
    have hc_4 := nltE (a := z_i.toInt) (b := 0) rfl (by decide +kernel) c_4
    refine lv_iload_n (pc := 4) E.1 E.2.1 dX11_book_4 rfl (lv_at hl3 1 rfl) ?_
    refine lv_aload_n (pc := 5) E.1 E.2.1 dX11_book_5 rfl (lv_at hl3 0 rfl) ?_
    refine x_get (pc := 6) (T := TX11) (N := 13) (ci := 11) (v := .ref (mr 3)) E hw1 inX11 0 0 q_606 rfl rfl (by decide) rfl rfl dX11_book_6 ?_
    refine x_get (pc := 9) (T := TX10) (N := 17) (ci := 10) (v := .ref (mr 9)) E hw1 inX10 1 0 q_458 rfl rfl (by decide) rfl rfl dX11_book_9 ?_
    refine x_get (pc := 12) (T := TX4) (N := 12) (ci := 4) (v := .int (mi 16)) E hw1 inX4 3 11 q_233 rfl rfl (by decide) rfl rfl dX11_book_12 ?_
    refine lv_icmp_ge (pc := 15) (tgt := 35) E.1 E.2.1 dX11_book_15 (by decide) (fun c_5 => ?_) (fun c_5 => ?_)
    · skip
      have hc_5 := leE (a := (mi 16).toInt) (b := z_i.toInt) rfl rfl c_5
      refine lv_iconst (pc := 35) (v := (-1)) E.1 E.2.1 dX11_book_35 (by decide +kernel) ?_
      exact em_i (w1 := (fun (u : (Nat → Int32) × (Nat → Nat → Int32) × (Nat → Nat → Int64)) => (WZ_Mbook cI cJ mv mr u.1 u.2.1 u.2.2))) E hr hlk (mi, mf, mg) hw1 ⟨(by show 0 ≤ (mi 1).toInt; have k_0 : ((-1) : Int32).toInt = -1 := (by decide +kernel); omega), (by show (mi 1).toInt ≤ 5; have k_0 : ((-1) : Int32).toInt = -1 := (by decide +kernel); omega), (by show 0 ≤ (mi 2).toInt; have k_0 : ((-1) : Int32).toInt = -1 := (by decide +kernel); omega), (by show (mi 2).toInt ≤ 6; have k_0 : ((-1) : Int32).toInt = -1 := (by decide +kernel); omega), (by show 0 ≤ (mi 7).toInt; have k_0 : ((-1) : Int32).toInt = -1 := (by decide +kernel); omega), (by show (mi 7).toInt ≤ 99; have k_0 : ((-1) : Int32).toInt = -1 := (by decide +kernel); omega), (by show (-1) ≤ (mi 11).toInt; have k_0 : ((-1) : Int32).toInt = -1 := (by decide +kernel); omega), (by show (mi 11).toInt ≤ 9; have k_0 : ((-1) : Int32).toInt = -1 := (by decide +kernel); omega), (by show 0 ≤ (mi 12).toInt; have k_0 : ((-1) : Int32).toInt = -1 := (by decide +kernel); omega), (by show (mi 12).toInt ≤ 9999; have k_0 : ((-1) : Int32).toInt = -1 := (by decide +kernel); omega), (by show 0 ≤ (mi 15).toInt; have k_0 : ((-1) : Int32).toInt = -1 := (by decide +kernel); omega), (by show (mi 15).toInt ≤ 200; have k_0 : ((-1) : Int32).toInt = -1 := (by decide +kernel); omega), (by show (mi 12).toInt = (mi 12).toInt; have k_0 : ((-1) : Int32).toInt = -1 := (by decide +kernel); omega), (by show (mi 2).toInt = (mi 2).toInt; have k_0 : ((-1) : Int32).toInt = -1 := (by decide +kernel); omega), (by show (mi 1).toInt = (mi 1).toInt; have k_0 : ((-1) : Int32).toInt = -1 := (by decide +kernel); omega), (by show (mi 11).toInt = (mi 11).toInt; have k_0 : ((-1) : Int32).toInt = -1 := (by decide +kernel); omega)⟩ (Nat.le_of_ble_eq_true rfl) (Nat.le_of_ble_eq_true rfl) dX11_book_36
    · skip
      have hc_5 := nleE (a := (mi 16).toInt) (b := z_i.toInt) rfl rfl c_5
      refine lv_iload_n (pc := 18) E.1 E.2.1 dX11_book_18 rfl (lv_at hl3 1 rfl) ?_
      refine lv_sipush (pc := 19) (v := 150) E.1 E.2.1 dX11_book_19 (by decide +kernel) ?_
      refine lv_icmp_ge (pc := 22) (tgt := 35) E.1 E.2.1 dX11_book_22 (by decide) (fun c_6 => ?_) (fun c_6 => ?_)
      · skip
        have hc_6 := leE (a := 150) (b := z_i.toInt) (by decide +kernel) rfl c_6
        refine lv_iconst (pc := 35) (v := (-1)) E.1 E.2.1 dX11_book_35 (by decide +kernel) ?_
        exact em_i (w1 := (fun (u : (Nat → Int32) × (Nat → Nat → Int32) × (Nat → Nat → Int64)) => (WZ_Mbook cI cJ mv mr u.1 u.2.1 u.2.2))) E hr hlk (mi, mf, mg) hw1 ⟨(by show 0 ≤ (mi 1).toInt; have k_0 : ((-1) : Int32).toInt = -1 := (by decide +kernel); omega), (by show (mi 1).toInt ≤ 5; have k_0 : ((-1) : Int32).toInt = -1 := (by decide +kernel); omega), (by show 0 ≤ (mi 2).toInt; have k_0 : ((-1) : Int32).toInt = -1 := (by decide +kernel); omega), (by show (mi 2).toInt ≤ 6; have k_0 : ((-1) : Int32).toInt = -1 := (by decide +kernel); omega), (by show 0 ≤ (mi 7).toInt; have k_0 : ((-1) : Int32).toInt = -1 := (by decide +kernel); omega), (by show (mi 7).toInt ≤ 99; have k_0 : ((-1) : Int32).toInt = -1 := (by decide +kernel); omega), (by show (-1) ≤ (mi 11).toInt; have k_0 : ((-1) : Int32).toInt = -1 := (by decide +kernel); omega), (by show (mi 11).toInt ≤ 9; have k_0 : ((-1) : Int32).toInt = -1 := (by decide +kernel); omega), (by show 0 ≤ (mi 12).toInt; have k_0 : ((-1) : Int32).toInt = -1 := (by decide +kernel); omega), (by show (mi 12).toInt ≤ 9999; have k_0 : ((-1) : Int32).toInt = -1 := (by decide +kernel); omega), (by show 0 ≤ (mi 15).toInt; have k_0 : ((-1) : Int32).toInt = -1 := (by decide +kernel); omega), (by show (mi 15).toInt ≤ 200; have k_0 : ((-1) : Int32).toInt = -1 := (by decide +kernel); omega), (by show (mi 12).toInt = (mi 12).toInt; have k_0 : ((-1) : Int32).toInt = -1 := (by decide +kernel); omega), (by show (mi 2).toInt = (mi 2).toInt; have k_0 : ((-1) : Int32).toInt = -1 := (by decide +kernel); omega), (by show (mi 1).toInt = (mi 1).toInt; have k_0 : ((-1) : Int32).toInt = -1 := (by decide +kernel); omega), (by show (mi 11).toInt = (mi 11).toInt; have k_0 : ((-1) : Int32).toInt = -1 := (by decide +kernel); omega)⟩ (Nat.le_of_ble_eq_true rfl) (Nat.le_of_ble_eq_true rfl) dX11_book_36
      · skip
        have hc_6 := nleE (a := 150) (b := z_i.toInt) (by decide +kernel) rfl c_6
        refine lv_iload_n (pc := 25) E.1 E.2.1 dX11_book_25 rfl (lv_at hl3 2 rfl) ?_
        refine lv_if_lt (pc := 26) (tgt := 35) E.1 E.2.1 dX11_book_26 (by decide) (fun c_7 => ?_) (fun c_7 => ?_)
        · skip
          have hc_7 := ltE (a := z_what.toInt) (b := 0) rfl (by decide +kernel) c_7
          refine lv_iconst (pc := 35) (v := (-1)) E.1 E.2.1 dX11_book_35 (by decide +kernel) ?_
          exact em_i (w1 := (fun (u : (Nat → Int32) × (Nat → Nat → Int32) × (Nat → Nat → Int64)) => (WZ_Mbook cI cJ mv mr u.1 u.2.1 u.2.2))) E hr hlk (mi, mf, mg) hw1 ⟨(by show 0 ≤ (mi 1).toInt; have k_0 : ((-1) : Int32).toInt = -1 := (by decide +kernel); omega), (by show (mi 1).toInt ≤ 5; have k_0 : ((-1) : Int32).toInt = -1 := (by decide +kernel); omega), (by show 0 ≤ (mi 2).toInt; have k_0 : ((-1) : Int32).toInt = -1 := (by decide +kernel); omega), (by show (mi 2).toInt ≤ 6; have k_0 : ((-1) : Int32).toInt = -1 := (by decide +kernel); omega), (by show 0 ≤ (mi 7).toInt; have k_0 : ((-1) : Int32).toInt = -1 := (by decide +kernel); omega), (by show (mi 7).toInt ≤ 99; have k_0 : ((-1) : Int32).toInt = -1 := (by decide +kernel); omega), (by show (-1) ≤ (mi 11).toInt; have k_0 : ((-1) : Int32).toInt = -1 := (by decide +kernel); omega), (by show (mi 11).toInt ≤ 9; have k_0 : ((-1) : Int32).toInt = -1 := (by decide +kernel); omega), (by show 0 ≤ (mi 12).toInt; have k_0 : ((-1) : Int32).toInt = -1 := (by decide +kernel); omega), (by show (mi 12).toInt ≤ 9999; have k_0 : ((-1) : Int32).toInt = -1 := (by decide +kernel); omega), (by show 0 ≤ (mi 15).toInt; have k_0 : ((-1) : Int32).toInt = -1 := (by decide +kernel); omega), (by show (mi 15).toInt ≤ 200; have k_0 : ((-1) : Int32).toInt = -1 := (by decide +kernel); omega), (by show (mi 12).toInt = (mi 12).toInt; have k_0 : ((-1) : Int32).toInt = -1 := (by decide +kernel); omega), (by show (mi 2).toInt = (mi 2).toInt; have k_0 : ((-1) : Int32).toInt = -1 := (by decide +kernel); omega), (by show (mi 1).toInt = (mi 1).toInt; have k_0 : ((-1) : Int32).toInt = -1 := (by decide +kernel); omega), (by show (mi 11).toInt = (mi 11).toInt; have k_0 : ((-1) : Int32).toInt = -1 := (by decide +kernel); omega)⟩ (Nat.le_of_ble_eq_true rfl) (Nat.le_of_ble_eq_true rfl) dX11_book_36
        · skip
          have hc_7 := nltE (a := z_what.toInt) (b := 0) rfl (by decide +kernel) c_7
          refine lv_iload_n (pc := 29) E.1 E.2.1 dX11_book_29 rfl (lv_at hl3 2 rfl) ?_
          refine lv_bipush (pc := 30) (v := 6) E.1 E.2.1 dX11_book_30 (by decide +kernel) ?_
          refine lv_icmp_lt (pc := 32) (tgt := 37) E.1 E.2.1 dX11_book_32 (by decide) (fun c_8 => ?_) (fun c_8 => ?_)
          · skip
            have hc_8 := ltE (a := z_what.toInt) (b := 6) rfl (by decide +kernel) c_8
            refine lv_aload_n (pc := 37) E.1 E.2.1 dX11_book_37 rfl (lv_at hl3 0 rfl) ?_
            refine x_get (pc := 38) (T := TX11) (N := 13) (ci := 11) (v := .ref (mr 3)) E hw1 inX11 0 0 q_606 rfl rfl (by decide) rfl rfl dX11_book_38 ?_
            refine x_get (pc := 41) (T := TX10) (N := 17) (ci := 10) (v := .ref (mr 4)) E hw1 inX10 1 8 q_480 rfl rfl (by decide) rfl rfl dX11_book_41 ?_
            refine lv_iload_n (pc := 44) E.1 E.2.1 dX11_book_44 rfl (lv_at hl3 1 rfl) ?_
            refine lv_bipush (pc := 45) (v := 6) E.1 E.2.1 dX11_book_45 (by decide +kernel) ?_
            refine lv_imul (pc := 47) E.1 E.2.1 dX11_book_47 ?_
            refine lv_topi (fun v_9 ev_9 => ?_)
            have hv_9 : v_9.toInt = z_i.toInt * 6 := by rw [ev_9]; exact mulE rfl (by decide +kernel) (by omega)
            refine lv_iload_n (pc := 48) E.1 E.2.1 dX11_book_48 rfl (lv_at hl3 2 rfl) ?_
            refine lv_iadd (pc := 49) E.1 E.2.1 dX11_book_49 ?_
            refine lv_topi (fun v_10 ev_10 => ?_)
            have hv_10 : v_10.toInt = v_9.toInt + z_what.toInt := by rw [ev_10]; exact addE rfl rfl (by omega)
            refine x_iald (pc := 50) (f := (mf 4)) E hw1 2 rfl (inbE (a := v_10.toInt) rfl (by omega)) dX11_book_50 ?_
            refine lv_topi (fun v_11 ev_11 => ?_)
            exact em_i (w1 := (fun (u : (Nat → Int32) × (Nat → Nat → Int32) × (Nat → Nat → Int64)) => (WZ_Mbook cI cJ mv mr u.1 u.2.1 u.2.2))) E hr hlk (mi, mf, mg) hw1 ⟨(by show 0 ≤ (mi 1).toInt; omega), (by show (mi 1).toInt ≤ 5; omega), (by show 0 ≤ (mi 2).toInt; omega), (by show (mi 2).toInt ≤ 6; omega), (by show 0 ≤ (mi 7).toInt; omega), (by show (mi 7).toInt ≤ 99; omega), (by show (-1) ≤ (mi 11).toInt; omega), (by show (mi 11).toInt ≤ 9; omega), (by show 0 ≤ (mi 12).toInt; omega), (by show (mi 12).toInt ≤ 9999; omega), (by show 0 ≤ (mi 15).toInt; omega), (by show (mi 15).toInt ≤ 200; omega), (by show (mi 12).toInt = (mi 12).toInt; omega), (by show (mi 2).toInt = (mi 2).toInt; omega), (by show (mi 1).toInt = (mi 1).toInt; omega), (by show (mi 11).toInt = (mi 11).toInt; omega)⟩ (Nat.le_of_ble_eq_true rfl) (Nat.le_of_ble_eq_true rfl) dX11_book_51
          · skip
            have hc_8 := nltE (a := z_what.toInt) (b := 6) rfl (by decide +kernel) c_8
            refine lv_iconst (pc := 35) (v := (-1)) E.1 E.2.1 dX11_book_35 (by decide +kernel) ?_
            exact em_i (w1 := (fun (u : (Nat → Int32) × (Nat → Nat → Int32) × (Nat → Nat → Int64)) => (WZ_Mbook cI cJ mv mr u.1 u.2.1 u.2.2))) E hr hlk (mi, mf, mg) hw1 ⟨(by show 0 ≤ (mi 1).toInt; have k_0 : ((-1) : Int32).toInt = -1 := (by decide +kernel); omega), (by show (mi 1).toInt ≤ 5; have k_0 : ((-1) : Int32).toInt = -1 := (by decide +kernel); omega), (by show 0 ≤ (mi 2).toInt; have k_0 : ((-1) : Int32).toInt = -1 := (by decide +kernel); omega), (by show (mi 2).toInt ≤ 6; have k_0 : ((-1) : Int32).toInt = -1 := (by decide +kernel); omega), (by show 0 ≤ (mi 7).toInt; have k_0 : ((-1) : Int32).toInt = -1 := (by decide +kernel); omega), (by show (mi 7).toInt ≤ 99; have k_0 : ((-1) : Int32).toInt = -1 := (by decide +kernel); omega), (by show (-1) ≤ (mi 11).toInt; have k_0 : ((-1) : Int32).toInt = -1 := (by decide +kernel); omega), (by show (mi 11).toInt ≤ 9; have k_0 : ((-1) : Int32).toInt = -1 := (by decide +kernel); omega), (by show 0 ≤ (mi 12).toInt; have k_0 : ((-1) : Int32).toInt = -1 := (by decide +kernel); omega), (by show (mi 12).toInt ≤ 9999; have k_0 : ((-1) : Int32).toInt = -1 := (by decide +kernel); omega), (by show 0 ≤ (mi 15).toInt; have k_0 : ((-1) : Int32).toInt = -1 := (by decide +kernel); omega), (by show (mi 15).toInt ≤ 200; have k_0 : ((-1) : Int32).toInt = -1 := (by decide +kernel); omega), (by show (mi 12).toInt = (mi 12).toInt; have k_0 : ((-1) : Int32).toInt = -1 := (by decide +kernel); omega), (by show (mi 2).toInt = (mi 2).toInt; have k_0 : ((-1) : Int32).toInt = -1 := (by decide +kernel); omega), (by show (mi 1).toInt = (mi 1).toInt; have k_0 : ((-1) : Int32).toInt = -1 := (by decide +kernel); omega), (by show (mi 11).toInt = (mi 11).toInt; have k_0 : ((-1) : Int32).toInt = -1 := (by decide +kernel); omega)⟩ (Nat.le_of_ble_eq_true rfl) (Nat.le_of_ble_eq_true rfl) dX11_book_36
set_option maxHeartbeats 4000000 in
set_option maxRecDepth 100000 in
theorem t_least (l : Launch) (D : va_G) (cI cJ : ClassId) (sz : Nat) (mr : Nat → Nat) (mi : Nat → Int32) (mf : Nat → Nat → Int32) (mg : Nat → Nat → Int64) (z_set : Int32)  : Met l yX11_least (Cond.code yX11_least cX11_least 2 (some .int) :: GW) ({ frames := 1, cells := 0, slots := 0, locals := 40 } : Room) (va_Pc [.int z_set] (PW D cI cJ sz (WZ_El cI cJ mr mi mf mg) xT)) (va_Qi (fun (r : Int32) (u : Unit) => True) (fun u => QW D cI cJ (va_A (WZ_El cI cJ mr mi mf mg) sz) ((fun (u : Unit) => (WZ_El cI cJ mr mi mf mg)) u)) (va_A (WZ_El cI cJ mr mi mf mg) sz)) 0 0 (va_A (WZ_El cI cJ mr mi mf mg) sz) := by
  refine mk_met (y := yX11_least) (bytes := cX11_least) (maxL := 2) (avs := [.int z_set]) (WS := (WZ_El cI cJ mr mi mf mg)) (Qf := fun A => va_Qi (fun (r : Int32) (u : Unit) => True) (fun u => QW D cI cJ A ((fun (u : Unit) => (WZ_El cI cJ mr mi mf mg)) u)) A) (by decide) (Nat.le_of_ble_eq_true rfl) ?_
  intro p e s m below meth c A ls E hr hlk hnm hX hw1 hl2
  have hl3 : lv_has ls 2 [(0, .int z_set)] := hl2
  refine lv_iconst (pc := 0) (v := 0) E.1 E.2.1 dX11_least_0 (by decide +kernel) ?_
  refine lv_istore_n (pc := 1) (lv' := [(1, .int 0), (0, .int z_set)]) E.1 E.2.1 dX11_least_1 rfl hl3 (by decide) rfl (fun ls hl4 => ?_)
  have loop_5 : ∀ (k : Nat) (x_6 : Int32) (H : Heap) (locs : List Loc) (ls : Array Slot), (0 ≤ x_6.toInt) ∧ (x_6.toInt ≤ 10) → 10 - x_6.toInt < (k : Int) → WD D A s.heap (WZ_El cI cJ mr mi mf mg) H locs → lv_has ls 2 [(1, .int x_6), (0, .int z_set)] → W p l e ({ frames := 1, cells := 0, slots := 0, locals := 40 } : Room) s m ([.int z_set] : List Value).toArray below meth c H locs 0 0 (MQ below (va_Qi (fun (r : Int32) (u : Unit) => True) (fun u => QW D cI cJ A ((fun (u : Unit) => (WZ_El cI cJ mr mi mf mg)) u)) A) ([.int z_set] : List Value).toArray s 0 0 A) (F0 m 2 ls []) := by
    intro k
    induction k with
    | zero =>
      intro x_6 _ _ _ hinv hm
      obtain ⟨hi_6_0, hi_6_1⟩ := hinv
      exact absurd hm (by omega)
    | succ k ih_7 =>
      intro x_6 H locs ls hinv hm hw8 hl9
      obtain ⟨hi_6_0, hi_6_1⟩ := hinv
      refine lv_iload_n (pc := 2) E.1 E.2.1 dX11_least_2 rfl (lv_at hl9 0 rfl) ?_
      refine lv_bipush (pc := 3) (v := 10) E.1 E.2.1 dX11_least_3 (by decide +kernel) ?_
      refine lv_icmp_ge (pc := 5) (tgt := 25) E.1 E.2.1 dX11_least_5 (by decide) (fun c_10 => ?_) (fun c_10 => ?_)
      · skip
        have hc_10 := leE (a := 10) (b := x_6.toInt) (by decide +kernel) rfl c_10
        refine lv_iconst (pc := 25) (v := (-1)) E.1 E.2.1 dX11_least_25 (by decide +kernel) ?_
        exact em_i (w1 := (fun (u : Unit) => (WZ_El cI cJ mr mi mf mg))) E hr hlk () hw8 trivial (Nat.le_of_ble_eq_true rfl) (Nat.le_of_ble_eq_true rfl) dX11_least_26
      · skip
        have hc_10 := nleE (a := 10) (b := x_6.toInt) (by decide +kernel) rfl c_10
        refine lv_iload_n (pc := 8) E.1 E.2.1 dX11_least_8 rfl (lv_at hl9 1 rfl) ?_
        refine lv_iload_n (pc := 9) E.1 E.2.1 dX11_least_9 rfl (lv_at hl9 0 rfl) ?_
        refine lv_ishr (pc := 10) E.1 E.2.1 dX11_least_10 ?_
        refine lv_topi (fun v_11 ev_11 => ?_)
        refine lv_iconst (pc := 11) (v := 1) E.1 E.2.1 dX11_least_11 (by decide +kernel) ?_
        refine lv_iand (pc := 12) E.1 E.2.1 dX11_least_12 ?_
        refine lv_topi (fun v_12 ev_12 => ?_)
        refine lv_iconst (pc := 13) (v := 1) E.1 E.2.1 dX11_least_13 (by decide +kernel) ?_
        refine lv_icmp_ne (pc := 14) (tgt := 19) E.1 E.2.1 dX11_least_14 (by decide) (fun c_13 => ?_) (fun c_13 => ?_)
        · skip
          have hc_13 := neE (a := v_12.toInt) (b := 1) rfl (by decide +kernel) c_13
          obtain ⟨v_14, ev_14⟩ : ∃ z : Int32, x_6 + Int32.ofInt (1) = z := ⟨_, rfl⟩
          have hv_14 : v_14.toInt = x_6.toInt + (1) := by rw [← ev_14]; exact incE rfl (by decide) (by omega)
          refine lv_iinc (pc := 19) (v := v_14) (lv' := [(1, .int v_14), (0, .int z_set)]) E.1 E.2.1 dX11_least_19 hl9 (k := 0) rfl ev_14 (by decide) rfl (fun ls hl15 => ?_)
          refine lv_goto (pc := 22) (tgt := 2) E.1 E.2.1 dX11_least_22 (by decide) ?_
          exact ih_7 v_14 _ _ _ ⟨(by show 0 ≤ v_14.toInt; omega), (by show v_14.toInt ≤ 10; omega)⟩ (by omega) hw8 (lv_sub hl15 [0, 1] rfl)
        · skip
          have hc_13 := eqE (a := v_12.toInt) (b := 1) rfl (by decide +kernel) c_13
          refine lv_iload_n (pc := 17) E.1 E.2.1 dX11_least_17 rfl (lv_at hl9 0 rfl) ?_
          exact em_i (w1 := (fun (u : Unit) => (WZ_El cI cJ mr mi mf mg))) E hr hlk () hw8 trivial (Nat.le_of_ble_eq_true rfl) (Nat.le_of_ble_eq_true rfl) dX11_least_18
  exact loop_5 (Int.toNat (10 - 0) + 1) 0 _ _ _ ⟨(by show 0 ≤ (0 : Int32).toInt; have k_0 : (0 : Int32).toInt = 0 := (by decide +kernel); omega), (by show (0 : Int32).toInt ≤ 10; have k_0 : (0 : Int32).toInt = 0 := (by decide +kernel); omega)⟩ (by have k_0 : (0 : Int32).toInt = 0 := (by decide +kernel); omega) hw1 (lv_sub hl4 [0, 1] rfl)
