set_option maxHeartbeats 4000000 in
set_option maxRecDepth 100000 in
theorem s_readsT (l : Launch) (D : va_G) (cI cJ : ClassId) (sz M : Nat) (mr : Nat → Nat) (mi : Nat → Int32) (mf : Nat → Nat → Int32) (mg : Nat → Nat → Int64)  (h0 : 0 ≤ (mi 22).toInt) (h1 : (mi 22).toInt ≤ (mi 21).toInt) (h2 : (mi 21).toInt ≤ 400) (h3 : ((mf 26) 153).toInt = 32) (a_tape : b255 (mf 20)) (lf_words : (∀ j : Nat, j < 154 → (mf 26) j = w0 j)) : Met l yX12_reads (Cond.code yX12_reads cX12_reads 2 none :: GW) ({ frames := 3, cells := 0, slots := 0, locals := 84 } : Room) (va_Pc [.ref M] (PW D cI cJ sz (MW cI cJ M mr mi mf mg) xT)) (va_Qv (fun (u : Int32 × Int32 × Int32 × Int32) => (0 ≤ u.2.1.toInt) ∧ (u.2.1.toInt ≤ u.1.toInt) ∧ (u.1.toInt ≤ (mi 21).toInt) ∧ (0 ≤ u.2.2.1.toInt) ∧ (u.2.2.1.toInt ≤ 4) ∧ (u.2.2.1.toInt ≤ 4 * u.1.toInt - 4 * u.2.1.toInt) ∧ ((mi 22).toInt ≤ u.2.1.toInt) ∧ (AGN u.2.2.1.toInt u.2.2.2.toInt u.2.1.toInt u.1.toInt) ∧ (TKR (mf 20) (mi 21).toInt (mi 22).toInt u.2.1.toInt u.1.toInt u.2.2.1.toInt u.2.2.2.toInt)) (fun u => QW D cI cJ (va_A (MW cI cJ M mr mi mf mg) sz) ((fun (u : Int32 × Int32 × Int32 × Int32) => (MW cI cJ M mr (upd (upd (upd (upd mi 22 u.1) 23 u.2.1) 24 u.2.2.1) 25 u.2.2.2) mf mg)) u)) (va_A (MW cI cJ M mr mi mf mg) sz)) 0 0 (va_A (MW cI cJ M mr mi mf mg) sz) := by
  refine mk_met (y := yX12_reads) (bytes := cX12_reads) (maxL := 2) (avs := [.ref M]) (WS := (MW cI cJ M mr mi mf mg)) (Qf := fun A => va_Qv (fun (u : Int32 × Int32 × Int32 × Int32) => (0 ≤ u.2.1.toInt) ∧ (u.2.1.toInt ≤ u.1.toInt) ∧ (u.1.toInt ≤ (mi 21).toInt) ∧ (0 ≤ u.2.2.1.toInt) ∧ (u.2.2.1.toInt ≤ 4) ∧ (u.2.2.1.toInt ≤ 4 * u.1.toInt - 4 * u.2.1.toInt) ∧ ((mi 22).toInt ≤ u.2.1.toInt) ∧ (AGN u.2.2.1.toInt u.2.2.2.toInt u.2.1.toInt u.1.toInt) ∧ (TKR (mf 20) (mi 21).toInt (mi 22).toInt u.2.1.toInt u.1.toInt u.2.2.1.toInt u.2.2.2.toInt)) (fun u => QW D cI cJ A ((fun (u : Int32 × Int32 × Int32 × Int32) => (MW cI cJ M mr (upd (upd (upd (upd mi 22 u.1) 23 u.2.1) 24 u.2.2.1) 25 u.2.2.2) mf mg)) u)) A) (by decide) (Nat.le_of_ble_eq_true rfl) ?_
  intro p e s m below meth c A ls E hr hlk hnm hX hw1 hl2
  have hl3 : lv_has ls 2 [(0, .ref M)] := hl2
  have loop_4 : ∀ (k : Nat) (x_5 : Int32) (H : Heap) (locs : List Loc) (ls : Array Slot), (0 ≤ x_5.toInt) ∧ (x_5.toInt ≤ (mi 21).toInt) ∧ ((mi 22).toInt ≤ x_5.toInt) ∧ (rnI spcB (mf 20) (mi 21).toInt x_5.toInt = rnI spcB (mf 20) (mi 21).toInt (mi 22).toInt) → (mi 21).toInt - x_5.toInt < (k : Int) → WD D A s.heap (MW cI cJ M mr (upd mi 22 x_5) mf mg) H locs → lv_has ls 2 [(0, .ref M)] → W p l e ({ frames := 3, cells := 0, slots := 0, locals := 84 } : Room) s m ([.ref M] : List Value).toArray below meth c H locs 0 0 (MQ below (va_Qv (fun (u : Int32 × Int32 × Int32 × Int32) => (0 ≤ u.2.1.toInt) ∧ (u.2.1.toInt ≤ u.1.toInt) ∧ (u.1.toInt ≤ (mi 21).toInt) ∧ (0 ≤ u.2.2.1.toInt) ∧ (u.2.2.1.toInt ≤ 4) ∧ (u.2.2.1.toInt ≤ 4 * u.1.toInt - 4 * u.2.1.toInt) ∧ ((mi 22).toInt ≤ u.2.1.toInt) ∧ (AGN u.2.2.1.toInt u.2.2.2.toInt u.2.1.toInt u.1.toInt) ∧ (TKR (mf 20) (mi 21).toInt (mi 22).toInt u.2.1.toInt u.1.toInt u.2.2.1.toInt u.2.2.2.toInt)) (fun u => QW D cI cJ A ((fun (u : Int32 × Int32 × Int32 × Int32) => (MW cI cJ M mr (upd (upd (upd (upd mi 22 u.1) 23 u.2.1) 24 u.2.2.1) 25 u.2.2.2) mf mg)) u)) A) ([.ref M] : List Value).toArray s 0 0 A) (F0 m 0 ls []) := by
    intro k
    induction k with
    | zero =>
      intro x_5 _ _ _ hinv hm
      obtain ⟨hi_5_0, hi_5_1, hi_5_2, hi_5_3⟩ := hinv
      exact absurd hm (by omega)
    | succ k ih_6 =>
      intro x_5 H locs ls hinv hm hw7 hl8
      obtain ⟨hi_5_0, hi_5_1, hi_5_2, hi_5_3⟩ := hinv
      refine lv_aload_n (pc := 0) E.1 E.2.1 dX12_reads_0 rfl (lv_at hl8 0 rfl) ?_
      refine lv_aload_n (pc := 1) E.1 E.2.1 dX12_reads_1 rfl (lv_at hl8 0 rfl) ?_
      refine x_get (pc := 2) (T := TX12) (N := 70) (ci := 12) (v := .int x_5) E hw7 inX12 0 22 q_1421 rfl rfl (by decide) rfl rfl dX12_reads_2 ?_
      refine cm_i (pc := 5) hw7 (rn_M (As := [.int x_5]) (rest := []) E hw7 (s_rawT l D cI cJ _ M mr (upd mi 22 x_5) mf mg x_5 hi_5_0 (by show 0 ≤ (mi 21).toInt ∧ (mi 21).toInt ≤ 400; omega) a_tape) (gdV q_1670 q_1672 q_53 q_162 q_1673) hdV_X12_raw ⟨rfl, rfl⟩ ⟨(Nat.le_of_ble_eq_true rfl), (Nat.le_of_ble_eq_true rfl)⟩ ⟨(Nat.le_of_ble_eq_true rfl), (Nat.le_of_ble_eq_true rfl)⟩ 12 rfl rfl rfl rfl hl8.1 rfl (Nat.le_of_ble_eq_true rfl) dX12_reads_5) (fun r_10 u_9 H1 locs hp hw11 => ?_)
      generalize H1 = H at hw11 ⊢
      have hw12 : WD D A s.heap (MW cI cJ M mr (upd mi 22 x_5) mf mg) H locs := hw11
      obtain ⟨hp_13, hp_14⟩ := hp
      have hp_13 : (x_5).toInt < (mi 21).toInt → r_10 = (mf 20) (x_5).toNatClampNeg := hp_13
      rcases hp_14 with ⟨ha_15, ha_16⟩ | ⟨ha_17, ha_18, ha_19⟩
      · skip
        have ha_15 : (mi 21).toInt ≤ x_5.toInt := ha_15
        have ha_16 : r_10.toInt = (-1) := ha_16
        refine lv_bipush (pc := 8) (v := 32) E.1 E.2.1 dX12_reads_8 (by decide +kernel) ?_
        refine lv_icmp_eq (pc := 10) (tgt := 26) E.1 E.2.1 dX12_reads_10 (by decide) (fun c_20 => absurd c_20 (mneE (a := r_10.toInt) (b := 32) rfl (by decide +kernel) (by omega))) (fun _ => ?_)
        refine lv_aload_n (pc := 13) E.1 E.2.1 dX12_reads_13 rfl (lv_at hl8 0 rfl) ?_
        refine lv_aload_n (pc := 14) E.1 E.2.1 dX12_reads_14 rfl (lv_at hl8 0 rfl) ?_
        refine x_get (pc := 15) (T := TX12) (N := 70) (ci := 12) (v := .int x_5) E hw12 inX12 0 22 q_1421 rfl rfl (by decide) rfl rfl dX12_reads_15 ?_
        refine cm_i (pc := 18) hw12 (rn_M (As := [.int x_5]) (rest := []) E hw12 (s_rawT l D cI cJ _ M mr (upd mi 22 x_5) mf mg x_5 hi_5_0 (by show 0 ≤ (mi 21).toInt ∧ (mi 21).toInt ≤ 400; omega) a_tape) (gdV q_1670 q_1672 q_53 q_162 q_1673) hdV_X12_raw ⟨rfl, rfl⟩ ⟨(Nat.le_of_ble_eq_true rfl), (Nat.le_of_ble_eq_true rfl)⟩ ⟨(Nat.le_of_ble_eq_true rfl), (Nat.le_of_ble_eq_true rfl)⟩ 12 rfl rfl rfl rfl hl8.1 rfl (Nat.le_of_ble_eq_true rfl) dX12_reads_18) (fun r_22 u_21 H1 locs hp hw23 => ?_)
        generalize H1 = H at hw23 ⊢
        have hw24 : WD D A s.heap (MW cI cJ M mr (upd mi 22 x_5) mf mg) H locs := hw23
        obtain ⟨hp_25, hp_26⟩ := hp
        have hp_25 : (x_5).toInt < (mi 21).toInt → r_22 = (mf 20) (x_5).toNatClampNeg := hp_25
        rcases hp_26 with ⟨ha_27, ha_28⟩ | ⟨ha_29, ha_30, ha_31⟩
        · skip
          have ha_27 : (mi 21).toInt ≤ x_5.toInt := ha_27
          have ha_28 : r_22.toInt = (-1) := ha_28
          refine lv_bipush (pc := 21) (v := 10) E.1 E.2.1 dX12_reads_21 (by decide +kernel) ?_
          refine lv_icmp_ne (pc := 23) (tgt := 39) E.1 E.2.1 dX12_reads_23 (by decide) (fun _ => ?_) (fun c_32 => absurd c_32 (mneE (a := r_22.toInt) (b := 10) rfl (by decide +kernel) (by omega)))
          have hst_33 : x_5.toInt = tkA (mf 20) (mi 21).toInt (mi 22).toInt := rnI_full hi_5_3 (by omega)
          refine lv_aload_n (pc := 39) E.1 E.2.1 dX12_reads_39 rfl (lv_at hl8 0 rfl) ?_
          refine lv_aload_n (pc := 40) E.1 E.2.1 dX12_reads_40 rfl (lv_at hl8 0 rfl) ?_
          refine x_get (pc := 41) (T := TX12) (N := 70) (ci := 12) (v := .int x_5) E hw24 inX12 0 22 q_1421 rfl rfl (by decide) rfl rfl dX12_reads_41 ?_
          refine x_put (pc := 44) (T := TX12) (N := 70) (ci := 12) (ws' := (MW cI cJ M mr (upd (upd mi 22 x_5) 23 x_5) mf mg)) E hw24 inX12 tyX12_ok nmX12 0 23 q_1422 rfl rfl (by decide) rfl rfl rfl rfl (Nat.le_of_ble_eq_true rfl) rfl dX12_reads_44 (fun H locs hw34 => ?_)
          refine lv_aload_n (pc := 47) E.1 E.2.1 dX12_reads_47 rfl (lv_at hl8 0 rfl) ?_
          refine lv_iconst (pc := 48) (v := 1) E.1 E.2.1 dX12_reads_48 (by decide +kernel) ?_
          refine x_put (pc := 49) (T := TX12) (N := 70) (ci := 12) (ws' := (MW cI cJ M mr (upd (upd (upd mi 22 x_5) 23 x_5) 24 1) mf mg)) E hw34 inX12 tyX12_ok nmX12 0 24 q_1423 rfl rfl (by decide) rfl rfl rfl rfl (Nat.le_of_ble_eq_true rfl) rfl dX12_reads_49 (fun H locs hw35 => ?_)
          refine lv_aload_n (pc := 52) E.1 E.2.1 dX12_reads_52 rfl (lv_at hl8 0 rfl) ?_
          refine lv_aload_n (pc := 53) E.1 E.2.1 dX12_reads_53 rfl (lv_at hl8 0 rfl) ?_
          refine x_get (pc := 54) (T := TX12) (N := 70) (ci := 12) (v := .int x_5) E hw35 inX12 0 22 q_1421 rfl rfl (by decide) rfl rfl dX12_reads_54 ?_
          refine cm_i (pc := 57) hw35 (rn_M (As := [.int x_5]) (rest := []) E hw35 (s_rawT l D cI cJ _ M mr (upd (upd (upd mi 22 x_5) 23 x_5) 24 1) mf mg x_5 hi_5_0 (by show 0 ≤ (mi 21).toInt ∧ (mi 21).toInt ≤ 400; omega) a_tape) (gdV q_1670 q_1672 q_53 q_162 q_1673) hdV_X12_raw ⟨rfl, rfl⟩ ⟨(Nat.le_of_ble_eq_true rfl), (Nat.le_of_ble_eq_true rfl)⟩ ⟨(Nat.le_of_ble_eq_true rfl), (Nat.le_of_ble_eq_true rfl)⟩ 12 rfl rfl rfl rfl hl8.1 rfl (Nat.le_of_ble_eq_true rfl) dX12_reads_57) (fun r_37 u_36 H1 locs hp hw38 => ?_)
          generalize H1 = H at hw38 ⊢
          have hw39 : WD D A s.heap (MW cI cJ M mr (upd (upd (upd mi 22 x_5) 23 x_5) 24 1) mf mg) H locs := hw38
          obtain ⟨hp_40, hp_41⟩ := hp
          have hp_40 : (x_5).toInt < (mi 21).toInt → r_37 = (mf 20) (x_5).toNatClampNeg := hp_40
          rcases hp_41 with ⟨ha_42, ha_43⟩ | ⟨ha_44, ha_45, ha_46⟩
          · skip
            have ha_42 : (mi 21).toInt ≤ x_5.toInt := ha_42
            have ha_43 : r_37.toInt = (-1) := ha_43
            refine lv_istore_n (pc := 60) (lv' := [(1, .int r_37), (0, .ref M)]) E.1 E.2.1 dX12_reads_60 rfl hl8 (by decide) rfl (fun ls hl47 => ?_)
            refine lv_iload_n (pc := 61) E.1 E.2.1 dX12_reads_61 rfl (lv_at hl47 0 rfl) ?_
            refine lv_iconst (pc := 62) (v := (-1)) E.1 E.2.1 dX12_reads_62 (by decide +kernel) ?_
            refine lv_icmp_ne (pc := 63) (tgt := 72) E.1 E.2.1 dX12_reads_63 (by decide) (fun c_48 => absurd (meqE (a := r_37.toInt) (b := (-1)) rfl (by decide +kernel) (by omega)) c_48) (fun _ => ?_)
            refine lv_aload_n (pc := 66) E.1 E.2.1 dX12_reads_66 rfl (lv_at hl47 1 rfl) ?_
            refine lv_iconst (pc := 67) (v := 0) E.1 E.2.1 dX12_reads_67 (by decide +kernel) ?_
            refine x_put (pc := 68) (T := TX12) (N := 70) (ci := 12) (ws' := (MW cI cJ M mr (upd (upd (upd mi 22 x_5) 23 x_5) 24 0) mf mg)) E hw39 inX12 tyX12_ok nmX12 0 24 q_1423 rfl rfl (by decide) rfl rfl rfl rfl (Nat.le_of_ble_eq_true rfl) rfl dX12_reads_68 (fun H locs hw49 => ?_)
            exact em_v (w1 := (fun (u : Int32 × Int32 × Int32 × Int32) => (MW cI cJ M mr (upd (upd (upd (upd mi 22 u.1) 23 u.2.1) 24 u.2.2.1) 25 u.2.2.2) mf mg))) E hr hlk (x_5, x_5, 0, (mi 25)) hw49 ⟨hi_5_0, (by show x_5.toInt ≤ x_5.toInt; have k_0 : (0 : Int32).toInt = 0 := (by decide +kernel); omega), hi_5_1, (by show 0 ≤ (0 : Int32).toInt; have k_0 : (0 : Int32).toInt = 0 := (by decide +kernel); omega), (by show (0 : Int32).toInt ≤ 4; have k_0 : (0 : Int32).toInt = 0 := (by decide +kernel); omega), (by show (0 : Int32).toInt ≤ 4 * x_5.toInt - 4 * x_5.toInt; have k_0 : (0 : Int32).toInt = 0 := (by decide +kernel); omega), hi_5_2, (show AGN ((0 : Int32).toInt) ((mi 25).toInt) x_5.toInt x_5.toInt from (AGN_tk (TKR_end hst_33 (by omega) rfl (by decide +kernel)))), (show TKR (mf 20) (mi 21).toInt (mi 22).toInt x_5.toInt x_5.toInt (0 : Int32).toInt (mi 25).toInt from (TKR_end hst_33 (by omega) rfl (by decide +kernel)))⟩ (Nat.le_of_ble_eq_true rfl) (Nat.le_of_ble_eq_true rfl) dX12_reads_71
          · skip
            have ha_44 : x_5.toInt ≤ (mi 21).toInt - 1 := ha_44
            have ha_45 : 0 ≤ r_37.toInt := ha_45
            have ha_46 : r_37.toInt ≤ 255 := ha_46
            exfalso; omega
        · skip
          have ha_29 : x_5.toInt ≤ (mi 21).toInt - 1 := ha_29
          have ha_30 : 0 ≤ r_22.toInt := ha_30
          have ha_31 : r_22.toInt ≤ 255 := ha_31
          exfalso; omega
      · skip
        have ha_17 : x_5.toInt ≤ (mi 21).toInt - 1 := ha_17
        have ha_18 : 0 ≤ r_10.toInt := ha_18
        have ha_19 : r_10.toInt ≤ 255 := ha_19
        refine lv_bipush (pc := 8) (v := 32) E.1 E.2.1 dX12_reads_8 (by decide +kernel) ?_
        refine lv_icmp_eq (pc := 10) (tgt := 26) E.1 E.2.1 dX12_reads_10 (by decide) (fun c_50 => ?_) (fun c_50 => ?_)
        · skip
          have hc_50 := eqE (a := r_10.toInt) (b := 32) rfl (by decide +kernel) c_50
          refine lv_aload_n (pc := 26) E.1 E.2.1 dX12_reads_26 rfl (lv_at hl8 0 rfl) ?_
          refine lv_aload_n (pc := 27) E.1 E.2.1 dX12_reads_27 rfl (lv_at hl8 0 rfl) ?_
          refine x_get (pc := 28) (T := TX12) (N := 70) (ci := 12) (v := .int x_5) E hw12 inX12 0 22 q_1421 rfl rfl (by decide) rfl rfl dX12_reads_28 ?_
          refine lv_iconst (pc := 31) (v := 1) E.1 E.2.1 dX12_reads_31 (by decide +kernel) ?_
          refine lv_iadd (pc := 32) E.1 E.2.1 dX12_reads_32 ?_
          refine lv_topi (fun v_51 ev_51 => ?_)
          have hv_51 : v_51.toInt = x_5.toInt + 1 := by rw [ev_51]; exact addE rfl (by decide +kernel) (by omega)
          refine x_put (pc := 33) (T := TX12) (N := 70) (ci := 12) (ws' := (MW cI cJ M mr (upd mi 22 v_51) mf mg)) E hw12 inX12 tyX12_ok nmX12 0 22 q_1421 rfl rfl (by decide) rfl rfl rfl rfl (Nat.le_of_ble_eq_true rfl) rfl dX12_reads_33 (fun H locs hw52 => ?_)
          refine lv_goto (pc := 36) (tgt := 0) E.1 E.2.1 dX12_reads_36 (by decide) ?_
          exact ih_6 v_51 _ _ _ ⟨(by show 0 ≤ v_51.toInt; omega), (by show v_51.toInt ≤ (mi 21).toInt; omega), (by show (mi 22).toInt ≤ v_51.toInt; omega), (rnI_step hi_5_3 (hp_13 (by omega)) (by omega) (by omega) (spc_t (by omega)) (m := v_51.toInt) (by omega))⟩ (by omega) hw52 (lv_sub hl8 [0] rfl)
        · skip
          have hc_50 := neE (a := r_10.toInt) (b := 32) rfl (by decide +kernel) c_50
          refine lv_aload_n (pc := 13) E.1 E.2.1 dX12_reads_13 rfl (lv_at hl8 0 rfl) ?_
          refine lv_aload_n (pc := 14) E.1 E.2.1 dX12_reads_14 rfl (lv_at hl8 0 rfl) ?_
          refine x_get (pc := 15) (T := TX12) (N := 70) (ci := 12) (v := .int x_5) E hw12 inX12 0 22 q_1421 rfl rfl (by decide) rfl rfl dX12_reads_15 ?_
          refine cm_i (pc := 18) hw12 (rn_M (As := [.int x_5]) (rest := []) E hw12 (s_rawT l D cI cJ _ M mr (upd mi 22 x_5) mf mg x_5 hi_5_0 (by show 0 ≤ (mi 21).toInt ∧ (mi 21).toInt ≤ 400; omega) a_tape) (gdV q_1670 q_1672 q_53 q_162 q_1673) hdV_X12_raw ⟨rfl, rfl⟩ ⟨(Nat.le_of_ble_eq_true rfl), (Nat.le_of_ble_eq_true rfl)⟩ ⟨(Nat.le_of_ble_eq_true rfl), (Nat.le_of_ble_eq_true rfl)⟩ 12 rfl rfl rfl rfl hl8.1 rfl (Nat.le_of_ble_eq_true rfl) dX12_reads_18) (fun r_54 u_53 H1 locs hp hw55 => ?_)
          generalize H1 = H at hw55 ⊢
          have hw56 : WD D A s.heap (MW cI cJ M mr (upd mi 22 x_5) mf mg) H locs := hw55
          obtain ⟨hp_57, hp_58⟩ := hp
          have hp_57 : (x_5).toInt < (mi 21).toInt → r_54 = (mf 20) (x_5).toNatClampNeg := hp_57
          rcases hp_58 with ⟨ha_59, ha_60⟩ | ⟨ha_61, ha_62, ha_63⟩
          · skip
            have ha_59 : (mi 21).toInt ≤ x_5.toInt := ha_59
            have ha_60 : r_54.toInt = (-1) := ha_60
            exfalso; omega
          · skip
            have ha_61 : x_5.toInt ≤ (mi 21).toInt - 1 := ha_61
            have ha_62 : 0 ≤ r_54.toInt := ha_62
            have ha_63 : r_54.toInt ≤ 255 := ha_63
            refine lv_bipush (pc := 21) (v := 10) E.1 E.2.1 dX12_reads_21 (by decide +kernel) ?_
            refine lv_icmp_ne (pc := 23) (tgt := 39) E.1 E.2.1 dX12_reads_23 (by decide) (fun c_64 => ?_) (fun c_64 => ?_)
            · skip
              have hc_64 := neE (a := r_54.toInt) (b := 10) rfl (by decide +kernel) c_64
              have hrsr_54 : r_54.toInt = r_10.toInt := by rw [(hp_57 (by omega)), (hp_13 (by omega))]
              have hst_65 : x_5.toInt = tkA (mf 20) (mi 21).toInt (mi 22).toInt := rnI_stop hi_5_3 (hp_57 (by omega)) (by omega) (by omega) (spc_f (by omega))
              refine lv_aload_n (pc := 39) E.1 E.2.1 dX12_reads_39 rfl (lv_at hl8 0 rfl) ?_
              refine lv_aload_n (pc := 40) E.1 E.2.1 dX12_reads_40 rfl (lv_at hl8 0 rfl) ?_
              refine x_get (pc := 41) (T := TX12) (N := 70) (ci := 12) (v := .int x_5) E hw56 inX12 0 22 q_1421 rfl rfl (by decide) rfl rfl dX12_reads_41 ?_
              refine x_put (pc := 44) (T := TX12) (N := 70) (ci := 12) (ws' := (MW cI cJ M mr (upd (upd mi 22 x_5) 23 x_5) mf mg)) E hw56 inX12 tyX12_ok nmX12 0 23 q_1422 rfl rfl (by decide) rfl rfl rfl rfl (Nat.le_of_ble_eq_true rfl) rfl dX12_reads_44 (fun H locs hw66 => ?_)
              refine lv_aload_n (pc := 47) E.1 E.2.1 dX12_reads_47 rfl (lv_at hl8 0 rfl) ?_
              refine lv_iconst (pc := 48) (v := 1) E.1 E.2.1 dX12_reads_48 (by decide +kernel) ?_
              refine x_put (pc := 49) (T := TX12) (N := 70) (ci := 12) (ws' := (MW cI cJ M mr (upd (upd (upd mi 22 x_5) 23 x_5) 24 1) mf mg)) E hw66 inX12 tyX12_ok nmX12 0 24 q_1423 rfl rfl (by decide) rfl rfl rfl rfl (Nat.le_of_ble_eq_true rfl) rfl dX12_reads_49 (fun H locs hw67 => ?_)
              refine lv_aload_n (pc := 52) E.1 E.2.1 dX12_reads_52 rfl (lv_at hl8 0 rfl) ?_
              refine lv_aload_n (pc := 53) E.1 E.2.1 dX12_reads_53 rfl (lv_at hl8 0 rfl) ?_
              refine x_get (pc := 54) (T := TX12) (N := 70) (ci := 12) (v := .int x_5) E hw67 inX12 0 22 q_1421 rfl rfl (by decide) rfl rfl dX12_reads_54 ?_
              refine cm_i (pc := 57) hw67 (rn_M (As := [.int x_5]) (rest := []) E hw67 (s_rawT l D cI cJ _ M mr (upd (upd (upd mi 22 x_5) 23 x_5) 24 1) mf mg x_5 hi_5_0 (by show 0 ≤ (mi 21).toInt ∧ (mi 21).toInt ≤ 400; omega) a_tape) (gdV q_1670 q_1672 q_53 q_162 q_1673) hdV_X12_raw ⟨rfl, rfl⟩ ⟨(Nat.le_of_ble_eq_true rfl), (Nat.le_of_ble_eq_true rfl)⟩ ⟨(Nat.le_of_ble_eq_true rfl), (Nat.le_of_ble_eq_true rfl)⟩ 12 rfl rfl rfl rfl hl8.1 rfl (Nat.le_of_ble_eq_true rfl) dX12_reads_57) (fun r_69 u_68 H1 locs hp hw70 => ?_)
              generalize H1 = H at hw70 ⊢
              have hw71 : WD D A s.heap (MW cI cJ M mr (upd (upd (upd mi 22 x_5) 23 x_5) 24 1) mf mg) H locs := hw70
              obtain ⟨hp_72, hp_73⟩ := hp
              have hp_72 : (x_5).toInt < (mi 21).toInt → r_69 = (mf 20) (x_5).toNatClampNeg := hp_72
              rcases hp_73 with ⟨ha_74, ha_75⟩ | ⟨ha_76, ha_77, ha_78⟩
              · skip
                have ha_74 : (mi 21).toInt ≤ x_5.toInt := ha_74
                have ha_75 : r_69.toInt = (-1) := ha_75
                exfalso; omega
              · skip
                have ha_76 : x_5.toInt ≤ (mi 21).toInt - 1 := ha_76
                have ha_77 : 0 ≤ r_69.toInt := ha_77
                have ha_78 : r_69.toInt ≤ 255 := ha_78
                refine lv_istore_n (pc := 60) (lv' := [(1, .int r_69), (0, .ref M)]) E.1 E.2.1 dX12_reads_60 rfl hl8 (by decide) rfl (fun ls hl79 => ?_)
                refine lv_iload_n (pc := 61) E.1 E.2.1 dX12_reads_61 rfl (lv_at hl79 0 rfl) ?_
                refine lv_iconst (pc := 62) (v := (-1)) E.1 E.2.1 dX12_reads_62 (by decide +kernel) ?_
                refine lv_icmp_ne (pc := 63) (tgt := 72) E.1 E.2.1 dX12_reads_63 (by decide) (fun _ => ?_) (fun c_80 => absurd c_80 (mneE (a := r_69.toInt) (b := (-1)) rfl (by decide +kernel) (by omega)))
                refine lv_aload_n (pc := 72) E.1 E.2.1 dX12_reads_72 rfl (lv_at hl79 1 rfl) ?_
                refine lv_aload_n (pc := 73) E.1 E.2.1 dX12_reads_73 rfl (lv_at hl79 1 rfl) ?_
                refine x_get (pc := 74) (T := TX12) (N := 70) (ci := 12) (v := .int x_5) E hw71 inX12 0 22 q_1421 rfl rfl (by decide) rfl rfl dX12_reads_74 ?_
                refine lv_iconst (pc := 77) (v := 1) E.1 E.2.1 dX12_reads_77 (by decide +kernel) ?_
                refine lv_iadd (pc := 78) E.1 E.2.1 dX12_reads_78 ?_
                refine lv_topi (fun v_81 ev_81 => ?_)
                have hv_81 : v_81.toInt = x_5.toInt + 1 := by rw [ev_81]; exact addE rfl (by decide +kernel) (by omega)
                refine x_put (pc := 79) (T := TX12) (N := 70) (ci := 12) (ws' := (MW cI cJ M mr (upd (upd (upd mi 22 v_81) 23 x_5) 24 1) mf mg)) E hw71 inX12 tyX12_ok nmX12 0 22 q_1421 rfl rfl (by decide) rfl rfl rfl rfl (Nat.le_of_ble_eq_true rfl) rfl dX12_reads_79 (fun H locs hw82 => ?_)
                refine lv_aload_n (pc := 82) E.1 E.2.1 dX12_reads_82 rfl (lv_at hl79 1 rfl) ?_
                refine lv_iload_n (pc := 83) E.1 E.2.1 dX12_reads_83 rfl (lv_at hl79 0 rfl) ?_
                refine x_put (pc := 84) (T := TX12) (N := 70) (ci := 12) (ws' := (MW cI cJ M mr (upd (upd (upd (upd mi 22 v_81) 23 x_5) 24 1) 25 r_69) mf mg)) E hw82 inX12 tyX12_ok nmX12 0 25 q_1424 rfl rfl (by decide) rfl rfl rfl rfl (Nat.le_of_ble_eq_true rfl) rfl dX12_reads_84 (fun H locs hw83 => ?_)
                refine lv_aload_n (pc := 87) E.1 E.2.1 dX12_reads_87 rfl (lv_at hl79 1 rfl) ?_
                refine lv_iload_n (pc := 88) E.1 E.2.1 dX12_reads_88 rfl (lv_at hl79 0 rfl) ?_
                refine cm_i (pc := 89) hw83 (rn_M (As := [.int r_69]) (rest := []) E hw83 (s_isLetterT l D cI cJ _ M mr (upd (upd (upd (upd mi 22 v_81) 23 x_5) 24 1) 25 r_69) mf mg r_69) (gdV q_1674 q_1676 q_54 q_162 q_1677) hdV_X12_isLetter ⟨rfl, rfl⟩ ⟨(Nat.le_of_ble_eq_true rfl), (Nat.le_of_ble_eq_true rfl)⟩ ⟨(Nat.le_of_ble_eq_true rfl), (Nat.le_of_ble_eq_true rfl)⟩ 12 rfl rfl rfl rfl hl79.1 rfl (Nat.le_of_ble_eq_true rfl) dX12_reads_89) (fun r_85 u_84 H1 locs hp hw86 => ?_)
                generalize H1 = H at hw86 ⊢
                have hw87 : WD D A s.heap (MW cI cJ M mr (upd (upd (upd (upd mi 22 v_81) 23 x_5) 24 1) 25 r_69) mf mg) H locs := hw86
                have hp_88 := hp
                rcases hp_88 with ⟨rfl, ha_89, ha_90⟩ | ⟨rfl, ha_91, ha_92⟩ | ⟨rfl, ha_93⟩ | ⟨rfl, ha_94, ha_95⟩ | ⟨rfl, ha_96⟩
                · skip
                  have ha_89 : 97 ≤ r_69.toInt := ha_89
                  have ha_90 : r_69.toInt ≤ 122 := ha_90
                  refine lv_if_eq (pc := 92) (tgt := 155) E.1 E.2.1 dX12_reads_92 (by decide) (fun c_97 => absurd c_97 (mneE (a := 1) (b := 0) (by decide +kernel) (by decide +kernel) (by omega))) (fun _ => ?_)
                  have loop_98 : ∀ (k : Nat) (x_99 : Int32) (H : Heap) (locs : List Loc) (ls : Array Slot), (x_5.toInt + 1 ≤ x_99.toInt) ∧ (x_99.toInt ≤ (mi 21).toInt) ∧ (LT (mf 20) x_5.toInt x_99.toInt) ∧ (rnI ltrB (mf 20) (mi 21).toInt x_99.toInt = rnI ltrB (mf 20) (mi 21).toInt x_5.toInt) → (mi 21).toInt - x_99.toInt < (k : Int) → WD D A s.heap (MW cI cJ M mr (upd (upd (upd (upd mi 22 x_99) 23 x_5) 24 1) 25 r_69) mf mg) H locs → lv_has ls 2 [(1, .int r_69), (0, .ref M)] → W p l e ({ frames := 3, cells := 0, slots := 0, locals := 84 } : Room) s m ([.ref M] : List Value).toArray below meth c H locs 0 0 (MQ below (va_Qv (fun (u : Int32 × Int32 × Int32 × Int32) => (0 ≤ u.2.1.toInt) ∧ (u.2.1.toInt ≤ u.1.toInt) ∧ (u.1.toInt ≤ (mi 21).toInt) ∧ (0 ≤ u.2.2.1.toInt) ∧ (u.2.2.1.toInt ≤ 4) ∧ (u.2.2.1.toInt ≤ 4 * u.1.toInt - 4 * u.2.1.toInt) ∧ ((mi 22).toInt ≤ u.2.1.toInt) ∧ (AGN u.2.2.1.toInt u.2.2.2.toInt u.2.1.toInt u.1.toInt) ∧ (TKR (mf 20) (mi 21).toInt (mi 22).toInt u.2.1.toInt u.1.toInt u.2.2.1.toInt u.2.2.2.toInt)) (fun u => QW D cI cJ A ((fun (u : Int32 × Int32 × Int32 × Int32) => (MW cI cJ M mr (upd (upd (upd (upd mi 22 u.1) 23 u.2.1) 24 u.2.2.1) 25 u.2.2.2) mf mg)) u)) A) ([.ref M] : List Value).toArray s 0 0 A) (F0 m 95 ls []) := by
                    intro k
                    induction k with
                    | zero =>
                      intro x_99 _ _ _ hinv hm
                      obtain ⟨hi_99_0, hi_99_1, hi_99_2, hi_99_3⟩ := hinv
                      exact absurd hm (by omega)
                    | succ k ih_100 =>
                      intro x_99 H locs ls hinv hm hw101 hl102
                      obtain ⟨hi_99_0, hi_99_1, hi_99_2, hi_99_3⟩ := hinv
                      refine lv_aload_n (pc := 95) E.1 E.2.1 dX12_reads_95 rfl (lv_at hl102 1 rfl) ?_
                      refine lv_aload_n (pc := 96) E.1 E.2.1 dX12_reads_96 rfl (lv_at hl102 1 rfl) ?_
                      refine lv_aload_n (pc := 97) E.1 E.2.1 dX12_reads_97 rfl (lv_at hl102 1 rfl) ?_
                      refine x_get (pc := 98) (T := TX12) (N := 70) (ci := 12) (v := .int x_99) E hw101 inX12 0 22 q_1421 rfl rfl (by decide) rfl rfl dX12_reads_98 ?_
                      refine cm_i (pc := 101) hw101 (rn_M (As := [.int x_99]) (rest := [.ref M]) E hw101 (s_rawT l D cI cJ _ M mr (upd (upd (upd (upd mi 22 x_99) 23 x_5) 24 1) 25 r_69) mf mg x_99 (by show 0 ≤ x_99.toInt; omega) (by show 0 ≤ (mi 21).toInt ∧ (mi 21).toInt ≤ 400; omega) a_tape) (gdV q_1670 q_1672 q_53 q_162 q_1673) hdV_X12_raw ⟨rfl, rfl⟩ ⟨(Nat.le_of_ble_eq_true rfl), (Nat.le_of_ble_eq_true rfl)⟩ ⟨(Nat.le_of_ble_eq_true rfl), (Nat.le_of_ble_eq_true rfl)⟩ 12 rfl rfl rfl rfl hl102.1 rfl (Nat.le_of_ble_eq_true rfl) dX12_reads_101) (fun r_104 u_103 H1 locs hp hw105 => ?_)
                      generalize H1 = H at hw105 ⊢
                      have hw106 : WD D A s.heap (MW cI cJ M mr (upd (upd (upd (upd mi 22 x_99) 23 x_5) 24 1) 25 r_69) mf mg) H locs := hw105
                      obtain ⟨hp_107, hp_108⟩ := hp
                      have hp_107 : (x_99).toInt < (mi 21).toInt → r_104 = (mf 20) (x_99).toNatClampNeg := hp_107
                      rcases hp_108 with ⟨ha_109, ha_110⟩ | ⟨ha_111, ha_112, ha_113⟩
                      · skip
                        have ha_109 : (mi 21).toInt ≤ x_99.toInt := ha_109
                        have ha_110 : r_104.toInt = (-1) := ha_110
                        refine cm_i (pc := 104) hw106 (rn_M (As := [.int r_104]) (rest := []) E hw106 (s_isLetterT l D cI cJ _ M mr (upd (upd (upd (upd mi 22 x_99) 23 x_5) 24 1) 25 r_69) mf mg r_104) (gdV q_1674 q_1676 q_54 q_162 q_1677) hdV_X12_isLetter ⟨rfl, rfl⟩ ⟨(Nat.le_of_ble_eq_true rfl), (Nat.le_of_ble_eq_true rfl)⟩ ⟨(Nat.le_of_ble_eq_true rfl), (Nat.le_of_ble_eq_true rfl)⟩ 12 rfl rfl rfl rfl hl102.1 rfl (Nat.le_of_ble_eq_true rfl) dX12_reads_104) (fun r_115 u_114 H1 locs hp hw116 => ?_)
                        generalize H1 = H at hw116 ⊢
                        have hw117 : WD D A s.heap (MW cI cJ M mr (upd (upd (upd (upd mi 22 x_99) 23 x_5) 24 1) 25 r_69) mf mg) H locs := hw116
                        have hp_118 := hp
                        rcases hp_118 with ⟨rfl, ha_119, ha_120⟩ | ⟨rfl, ha_121, ha_122⟩ | ⟨rfl, ha_123⟩ | ⟨rfl, ha_124, ha_125⟩ | ⟨rfl, ha_126⟩
                        · skip
                          have ha_119 : 97 ≤ r_104.toInt := ha_119
                          have ha_120 : r_104.toInt ≤ 122 := ha_120
                          exfalso; omega
                        · skip
                          have ha_121 : 65 ≤ r_104.toInt := ha_121
                          have ha_122 : r_104.toInt ≤ 90 := ha_122
                          exfalso; omega
                        · skip
                          have ha_123 : r_104.toInt ≤ 64 := ha_123
                          refine lv_if_eq (pc := 107) (tgt := 123) E.1 E.2.1 dX12_reads_107 (by decide) (fun _ => ?_) (fun c_127 => absurd (meqE (a := 0) (b := 0) (by decide +kernel) (by decide +kernel) (by omega)) c_127)
                          have hst_128 : x_99.toInt = rnI ltrB (mf 20) (mi 21).toInt x_5.toInt := rnI_full hi_99_3 (by omega)
                          refine lv_aload_n (pc := 123) E.1 E.2.1 dX12_reads_123 rfl (lv_at hl102 1 rfl) ?_
                          refine lv_aload_n (pc := 124) E.1 E.2.1 dX12_reads_124 rfl (lv_at hl102 1 rfl) ?_
                          refine lv_aload_n (pc := 125) E.1 E.2.1 dX12_reads_125 rfl (lv_at hl102 1 rfl) ?_
                          refine x_get (pc := 126) (T := TX12) (N := 70) (ci := 12) (v := .int x_5) E hw117 inX12 0 23 q_1422 rfl rfl (by decide) rfl rfl dX12_reads_126 ?_
                          refine lv_aload_n (pc := 129) E.1 E.2.1 dX12_reads_129 rfl (lv_at hl102 1 rfl) ?_
                          refine x_get (pc := 130) (T := TX12) (N := 70) (ci := 12) (v := .int x_99) E hw117 inX12 0 22 q_1421 rfl rfl (by decide) rfl rfl dX12_reads_130 ?_
                          refine cm_i (pc := 133) hw117 (rn_M (As := [.int x_5, .int x_99]) (rest := [.ref M]) E hw117 (s_wordAtT l D cI cJ _ M mr (upd (upd (upd (upd mi 22 x_99) 23 x_5) 24 1) 25 r_69) mf mg x_5 x_99 hi_5_0 (by show x_5.toInt ≤ x_99.toInt; omega) (by show x_99.toInt ≤ 400; omega) h3 (show (∀ j : Nat, j < 154 → (mf 26) j = w0 j) from lf_words) (show LT (mf 20) (x_5).toInt (x_99).toInt from hi_99_2)) (gdV q_1678 q_1680 q_55 q_162 q_1681) hdV_X12_wordAt ⟨rfl, rfl⟩ ⟨(Nat.le_of_ble_eq_true rfl), (Nat.le_of_ble_eq_true rfl)⟩ ⟨(Nat.le_of_ble_eq_true rfl), (Nat.le_of_ble_eq_true rfl)⟩ 12 rfl rfl rfl rfl hl102.1 rfl (Nat.le_of_ble_eq_true rfl) dX12_reads_133) (fun r_130 u_129 H1 locs hp hw131 => ?_)
                          generalize H1 = H at hw131 ⊢
                          have hw132 : WD D A s.heap (MW cI cJ M mr (upd (upd (upd (upd mi 22 x_99) 23 x_5) 24 1) 25 r_69) mf mg) H locs := hw131
                          obtain ⟨hp_133, hp_134, hp_135⟩ := hp
                          have hp_133 : (-1) ≤ r_130.toInt := hp_133
                          have hp_134 : r_130.toInt ≤ 30 := hp_134
                          have hp_135 : (r_130 : Int32).toInt = wxI (mf 20) (x_5).toInt (x_99).toInt WL 0 := hp_135
                          refine x_put (pc := 136) (T := TX12) (N := 70) (ci := 12) (ws' := (MW cI cJ M mr (upd (upd (upd (upd mi 22 x_99) 23 x_5) 24 1) 25 r_130) mf mg)) E hw132 inX12 tyX12_ok nmX12 0 25 q_1424 rfl rfl (by decide) rfl rfl rfl rfl (Nat.le_of_ble_eq_true rfl) rfl dX12_reads_136 (fun H locs hw136 => ?_)
                          refine lv_aload_n (pc := 139) E.1 E.2.1 dX12_reads_139 rfl (lv_at hl102 1 rfl) ?_
                          refine x_get (pc := 140) (T := TX12) (N := 70) (ci := 12) (v := .int r_130) E hw136 inX12 0 25 q_1424 rfl rfl (by decide) rfl rfl dX12_reads_140 ?_
                          refine lv_iconst (pc := 143) (v := (-1)) E.1 E.2.1 dX12_reads_143 (by decide +kernel) ?_
                          refine lv_icmp_eq (pc := 144) (tgt := 273) E.1 E.2.1 dX12_reads_144 (by decide) (fun c_137 => ?_) (fun c_137 => ?_)
                          · skip
                            have hc_137 := eqE (a := r_130.toInt) (b := (-1)) rfl (by decide +kernel) c_137
                            exact em_v (w1 := (fun (u : Int32 × Int32 × Int32 × Int32) => (MW cI cJ M mr (upd (upd (upd (upd mi 22 u.1) 23 u.2.1) 24 u.2.2.1) 25 u.2.2.2) mf mg))) E hr hlk (x_99, x_5, 1, r_130) hw136 ⟨hi_5_0, (by show x_5.toInt ≤ x_99.toInt; have k_0 : (1 : Int32).toInt = 1 := (by decide +kernel); omega), hi_99_1, (by show 0 ≤ (1 : Int32).toInt; have k_0 : (1 : Int32).toInt = 1 := (by decide +kernel); omega), (by show (1 : Int32).toInt ≤ 4; have k_0 : (1 : Int32).toInt = 1 := (by decide +kernel); omega), (by show (1 : Int32).toInt ≤ 4 * x_99.toInt - 4 * x_5.toInt; have k_0 : (1 : Int32).toInt = 1 := (by decide +kernel); omega), hi_5_2, (show AGN ((1 : Int32).toInt) r_130.toInt x_5.toInt x_99.toInt from (AGN_tk (TKR_let hst_65 (hp_72 (by omega)) (by omega) (by omega) (ltr_t (by omega)) rfl hst_128 hp_135 (Or.inl ⟨by omega, by decide +kernel⟩)))), (show TKR (mf 20) (mi 21).toInt (mi 22).toInt x_5.toInt x_99.toInt (1 : Int32).toInt r_130.toInt from (TKR_let hst_65 (hp_72 (by omega)) (by omega) (by omega) (ltr_t (by omega)) rfl hst_128 hp_135 (Or.inl ⟨by omega, by decide +kernel⟩)))⟩ (Nat.le_of_ble_eq_true rfl) (Nat.le_of_ble_eq_true rfl) dX12_reads_273
                          · skip
                            have hc_137 := neE (a := r_130.toInt) (b := (-1)) rfl (by decide +kernel) c_137
                            refine lv_aload_n (pc := 147) E.1 E.2.1 dX12_reads_147 rfl (lv_at hl102 1 rfl) ?_
                            refine lv_iconst (pc := 148) (v := 2) E.1 E.2.1 dX12_reads_148 (by decide +kernel) ?_
                            refine x_put (pc := 149) (T := TX12) (N := 70) (ci := 12) (ws' := (MW cI cJ M mr (upd (upd (upd (upd mi 22 x_99) 23 x_5) 24 2) 25 r_130) mf mg)) E hw136 inX12 tyX12_ok nmX12 0 24 q_1423 rfl rfl (by decide) rfl rfl rfl rfl (Nat.le_of_ble_eq_true rfl) rfl dX12_reads_149 (fun H locs hw138 => ?_)
                            refine lv_goto (pc := 152) (tgt := 273) E.1 E.2.1 dX12_reads_152 (by decide) ?_
                            exact em_v (w1 := (fun (u : Int32 × Int32 × Int32 × Int32) => (MW cI cJ M mr (upd (upd (upd (upd mi 22 u.1) 23 u.2.1) 24 u.2.2.1) 25 u.2.2.2) mf mg))) E hr hlk (x_99, x_5, 2, r_130) hw138 ⟨hi_5_0, (by show x_5.toInt ≤ x_99.toInt; have k_0 : (2 : Int32).toInt = 2 := (by decide +kernel); omega), hi_99_1, (by show 0 ≤ (2 : Int32).toInt; have k_0 : (2 : Int32).toInt = 2 := (by decide +kernel); omega), (by show (2 : Int32).toInt ≤ 4; have k_0 : (2 : Int32).toInt = 2 := (by decide +kernel); omega), (by show (2 : Int32).toInt ≤ 4 * x_99.toInt - 4 * x_5.toInt; have k_0 : (2 : Int32).toInt = 2 := (by decide +kernel); omega), hi_5_2, (show AGN ((2 : Int32).toInt) r_130.toInt x_5.toInt x_99.toInt from (AGN_tk (TKR_let hst_65 (hp_72 (by omega)) (by omega) (by omega) (ltr_t (by omega)) rfl hst_128 hp_135 (Or.inr ⟨by omega, by decide +kernel⟩)))), (show TKR (mf 20) (mi 21).toInt (mi 22).toInt x_5.toInt x_99.toInt (2 : Int32).toInt r_130.toInt from (TKR_let hst_65 (hp_72 (by omega)) (by omega) (by omega) (ltr_t (by omega)) rfl hst_128 hp_135 (Or.inr ⟨by omega, by decide +kernel⟩)))⟩ (Nat.le_of_ble_eq_true rfl) (Nat.le_of_ble_eq_true rfl) dX12_reads_273
                        · skip
                          have ha_124 : 91 ≤ r_104.toInt := ha_124
                          have ha_125 : r_104.toInt ≤ 96 := ha_125
                          exfalso; omega
                        · skip
                          have ha_126 : 123 ≤ r_104.toInt := ha_126
                          exfalso; omega
                      · skip
                        have ha_111 : x_99.toInt ≤ (mi 21).toInt - 1 := ha_111
                        have ha_112 : 0 ≤ r_104.toInt := ha_112
                        have ha_113 : r_104.toInt ≤ 255 := ha_113
                        refine cm_i (pc := 104) hw106 (rn_M (As := [.int r_104]) (rest := []) E hw106 (s_isLetterT l D cI cJ _ M mr (upd (upd (upd (upd mi 22 x_99) 23 x_5) 24 1) 25 r_69) mf mg r_104) (gdV q_1674 q_1676 q_54 q_162 q_1677) hdV_X12_isLetter ⟨rfl, rfl⟩ ⟨(Nat.le_of_ble_eq_true rfl), (Nat.le_of_ble_eq_true rfl)⟩ ⟨(Nat.le_of_ble_eq_true rfl), (Nat.le_of_ble_eq_true rfl)⟩ 12 rfl rfl rfl rfl hl102.1 rfl (Nat.le_of_ble_eq_true rfl) dX12_reads_104) (fun r_140 u_139 H1 locs hp hw141 => ?_)
                        generalize H1 = H at hw141 ⊢
                        have hw142 : WD D A s.heap (MW cI cJ M mr (upd (upd (upd (upd mi 22 x_99) 23 x_5) 24 1) 25 r_69) mf mg) H locs := hw141
                        have hp_143 := hp
                        rcases hp_143 with ⟨rfl, ha_144, ha_145⟩ | ⟨rfl, ha_146, ha_147⟩ | ⟨rfl, ha_148⟩ | ⟨rfl, ha_149, ha_150⟩ | ⟨rfl, ha_151⟩
                        · skip
                          have ha_144 : 97 ≤ r_104.toInt := ha_144
                          have ha_145 : r_104.toInt ≤ 122 := ha_145
                          refine lv_if_eq (pc := 107) (tgt := 123) E.1 E.2.1 dX12_reads_107 (by decide) (fun c_152 => absurd c_152 (mneE (a := 1) (b := 0) (by decide +kernel) (by decide +kernel) (by omega))) (fun _ => ?_)
                          refine lv_aload_n (pc := 110) E.1 E.2.1 dX12_reads_110 rfl (lv_at hl102 1 rfl) ?_
                          refine lv_aload_n (pc := 111) E.1 E.2.1 dX12_reads_111 rfl (lv_at hl102 1 rfl) ?_
                          refine x_get (pc := 112) (T := TX12) (N := 70) (ci := 12) (v := .int x_99) E hw142 inX12 0 22 q_1421 rfl rfl (by decide) rfl rfl dX12_reads_112 ?_
                          refine lv_iconst (pc := 115) (v := 1) E.1 E.2.1 dX12_reads_115 (by decide +kernel) ?_
                          refine lv_iadd (pc := 116) E.1 E.2.1 dX12_reads_116 ?_
                          refine lv_topi (fun v_153 ev_153 => ?_)
                          have hv_153 : v_153.toInt = x_99.toInt + 1 := by rw [ev_153]; exact addE rfl (by decide +kernel) (by omega)
                          refine x_put (pc := 117) (T := TX12) (N := 70) (ci := 12) (ws' := (MW cI cJ M mr (upd (upd (upd (upd mi 22 v_153) 23 x_5) 24 1) 25 r_69) mf mg)) E hw142 inX12 tyX12_ok nmX12 0 22 q_1421 rfl rfl (by decide) rfl rfl rfl rfl (Nat.le_of_ble_eq_true rfl) rfl dX12_reads_117 (fun H locs hw154 => ?_)
                          refine lv_goto (pc := 120) (tgt := 95) E.1 E.2.1 dX12_reads_120 (by decide) ?_
                          exact ih_100 v_153 _ _ _ ⟨(by show x_5.toInt + 1 ≤ v_153.toInt; omega), (by show v_153.toInt ≤ (mi 21).toInt; omega), (LT_step (i := x_99) (v := r_104) hi_99_2 (hp_107 (by omega)) (by omega) (by omega) (by omega) (by omega)), (rnI_step hi_99_3 (hp_107 (by omega)) (by omega) (by omega) (ltr_t (by omega)) (m := v_153.toInt) (by omega))⟩ (by omega) hw154 (lv_sub hl102 [0, 1] rfl)
                        · skip
                          have ha_146 : 65 ≤ r_104.toInt := ha_146
                          have ha_147 : r_104.toInt ≤ 90 := ha_147
                          refine lv_if_eq (pc := 107) (tgt := 123) E.1 E.2.1 dX12_reads_107 (by decide) (fun c_155 => absurd c_155 (mneE (a := 1) (b := 0) (by decide +kernel) (by decide +kernel) (by omega))) (fun _ => ?_)
                          refine lv_aload_n (pc := 110) E.1 E.2.1 dX12_reads_110 rfl (lv_at hl102 1 rfl) ?_
                          refine lv_aload_n (pc := 111) E.1 E.2.1 dX12_reads_111 rfl (lv_at hl102 1 rfl) ?_
                          refine x_get (pc := 112) (T := TX12) (N := 70) (ci := 12) (v := .int x_99) E hw142 inX12 0 22 q_1421 rfl rfl (by decide) rfl rfl dX12_reads_112 ?_
                          refine lv_iconst (pc := 115) (v := 1) E.1 E.2.1 dX12_reads_115 (by decide +kernel) ?_
                          refine lv_iadd (pc := 116) E.1 E.2.1 dX12_reads_116 ?_
                          refine lv_topi (fun v_156 ev_156 => ?_)
                          have hv_156 : v_156.toInt = x_99.toInt + 1 := by rw [ev_156]; exact addE rfl (by decide +kernel) (by omega)
                          refine x_put (pc := 117) (T := TX12) (N := 70) (ci := 12) (ws' := (MW cI cJ M mr (upd (upd (upd (upd mi 22 v_156) 23 x_5) 24 1) 25 r_69) mf mg)) E hw142 inX12 tyX12_ok nmX12 0 22 q_1421 rfl rfl (by decide) rfl rfl rfl rfl (Nat.le_of_ble_eq_true rfl) rfl dX12_reads_117 (fun H locs hw157 => ?_)
                          refine lv_goto (pc := 120) (tgt := 95) E.1 E.2.1 dX12_reads_120 (by decide) ?_
                          exact ih_100 v_156 _ _ _ ⟨(by show x_5.toInt + 1 ≤ v_156.toInt; omega), (by show v_156.toInt ≤ (mi 21).toInt; omega), (LT_step (i := x_99) (v := r_104) hi_99_2 (hp_107 (by omega)) (by omega) (by omega) (by omega) (by omega)), (rnI_step hi_99_3 (hp_107 (by omega)) (by omega) (by omega) (ltr_t (by omega)) (m := v_156.toInt) (by omega))⟩ (by omega) hw157 (lv_sub hl102 [0, 1] rfl)
                        · skip
                          have ha_148 : r_104.toInt ≤ 64 := ha_148
                          refine lv_if_eq (pc := 107) (tgt := 123) E.1 E.2.1 dX12_reads_107 (by decide) (fun _ => ?_) (fun c_158 => absurd (meqE (a := 0) (b := 0) (by decide +kernel) (by decide +kernel) (by omega)) c_158)
                          have hst_159 : x_99.toInt = rnI ltrB (mf 20) (mi 21).toInt x_5.toInt := rnI_stop hi_99_3 (hp_107 (by omega)) (by omega) (by omega) (ltr_f (by omega))
                          refine lv_aload_n (pc := 123) E.1 E.2.1 dX12_reads_123 rfl (lv_at hl102 1 rfl) ?_
                          refine lv_aload_n (pc := 124) E.1 E.2.1 dX12_reads_124 rfl (lv_at hl102 1 rfl) ?_
                          refine lv_aload_n (pc := 125) E.1 E.2.1 dX12_reads_125 rfl (lv_at hl102 1 rfl) ?_
                          refine x_get (pc := 126) (T := TX12) (N := 70) (ci := 12) (v := .int x_5) E hw142 inX12 0 23 q_1422 rfl rfl (by decide) rfl rfl dX12_reads_126 ?_
                          refine lv_aload_n (pc := 129) E.1 E.2.1 dX12_reads_129 rfl (lv_at hl102 1 rfl) ?_
                          refine x_get (pc := 130) (T := TX12) (N := 70) (ci := 12) (v := .int x_99) E hw142 inX12 0 22 q_1421 rfl rfl (by decide) rfl rfl dX12_reads_130 ?_
                          refine cm_i (pc := 133) hw142 (rn_M (As := [.int x_5, .int x_99]) (rest := [.ref M]) E hw142 (s_wordAtT l D cI cJ _ M mr (upd (upd (upd (upd mi 22 x_99) 23 x_5) 24 1) 25 r_69) mf mg x_5 x_99 hi_5_0 (by show x_5.toInt ≤ x_99.toInt; omega) (by show x_99.toInt ≤ 400; omega) h3 (show (∀ j : Nat, j < 154 → (mf 26) j = w0 j) from lf_words) (show LT (mf 20) (x_5).toInt (x_99).toInt from hi_99_2)) (gdV q_1678 q_1680 q_55 q_162 q_1681) hdV_X12_wordAt ⟨rfl, rfl⟩ ⟨(Nat.le_of_ble_eq_true rfl), (Nat.le_of_ble_eq_true rfl)⟩ ⟨(Nat.le_of_ble_eq_true rfl), (Nat.le_of_ble_eq_true rfl)⟩ 12 rfl rfl rfl rfl hl102.1 rfl (Nat.le_of_ble_eq_true rfl) dX12_reads_133) (fun r_161 u_160 H1 locs hp hw162 => ?_)
                          generalize H1 = H at hw162 ⊢
                          have hw163 : WD D A s.heap (MW cI cJ M mr (upd (upd (upd (upd mi 22 x_99) 23 x_5) 24 1) 25 r_69) mf mg) H locs := hw162
                          obtain ⟨hp_164, hp_165, hp_166⟩ := hp
                          have hp_164 : (-1) ≤ r_161.toInt := hp_164
                          have hp_165 : r_161.toInt ≤ 30 := hp_165
                          have hp_166 : (r_161 : Int32).toInt = wxI (mf 20) (x_5).toInt (x_99).toInt WL 0 := hp_166
                          refine x_put (pc := 136) (T := TX12) (N := 70) (ci := 12) (ws' := (MW cI cJ M mr (upd (upd (upd (upd mi 22 x_99) 23 x_5) 24 1) 25 r_161) mf mg)) E hw163 inX12 tyX12_ok nmX12 0 25 q_1424 rfl rfl (by decide) rfl rfl rfl rfl (Nat.le_of_ble_eq_true rfl) rfl dX12_reads_136 (fun H locs hw167 => ?_)
                          refine lv_aload_n (pc := 139) E.1 E.2.1 dX12_reads_139 rfl (lv_at hl102 1 rfl) ?_
                          refine x_get (pc := 140) (T := TX12) (N := 70) (ci := 12) (v := .int r_161) E hw167 inX12 0 25 q_1424 rfl rfl (by decide) rfl rfl dX12_reads_140 ?_
                          refine lv_iconst (pc := 143) (v := (-1)) E.1 E.2.1 dX12_reads_143 (by decide +kernel) ?_
                          refine lv_icmp_eq (pc := 144) (tgt := 273) E.1 E.2.1 dX12_reads_144 (by decide) (fun c_168 => ?_) (fun c_168 => ?_)
                          · skip
                            have hc_168 := eqE (a := r_161.toInt) (b := (-1)) rfl (by decide +kernel) c_168
                            exact em_v (w1 := (fun (u : Int32 × Int32 × Int32 × Int32) => (MW cI cJ M mr (upd (upd (upd (upd mi 22 u.1) 23 u.2.1) 24 u.2.2.1) 25 u.2.2.2) mf mg))) E hr hlk (x_99, x_5, 1, r_161) hw167 ⟨hi_5_0, (by show x_5.toInt ≤ x_99.toInt; have k_0 : (1 : Int32).toInt = 1 := (by decide +kernel); omega), hi_99_1, (by show 0 ≤ (1 : Int32).toInt; have k_0 : (1 : Int32).toInt = 1 := (by decide +kernel); omega), (by show (1 : Int32).toInt ≤ 4; have k_0 : (1 : Int32).toInt = 1 := (by decide +kernel); omega), (by show (1 : Int32).toInt ≤ 4 * x_99.toInt - 4 * x_5.toInt; have k_0 : (1 : Int32).toInt = 1 := (by decide +kernel); omega), hi_5_2, (show AGN ((1 : Int32).toInt) r_161.toInt x_5.toInt x_99.toInt from (AGN_tk (TKR_let hst_65 (hp_72 (by omega)) (by omega) (by omega) (ltr_t (by omega)) rfl hst_159 hp_166 (Or.inl ⟨by omega, by decide +kernel⟩)))), (show TKR (mf 20) (mi 21).toInt (mi 22).toInt x_5.toInt x_99.toInt (1 : Int32).toInt r_161.toInt from (TKR_let hst_65 (hp_72 (by omega)) (by omega) (by omega) (ltr_t (by omega)) rfl hst_159 hp_166 (Or.inl ⟨by omega, by decide +kernel⟩)))⟩ (Nat.le_of_ble_eq_true rfl) (Nat.le_of_ble_eq_true rfl) dX12_reads_273
                          · skip
                            have hc_168 := neE (a := r_161.toInt) (b := (-1)) rfl (by decide +kernel) c_168
                            refine lv_aload_n (pc := 147) E.1 E.2.1 dX12_reads_147 rfl (lv_at hl102 1 rfl) ?_
                            refine lv_iconst (pc := 148) (v := 2) E.1 E.2.1 dX12_reads_148 (by decide +kernel) ?_
                            refine x_put (pc := 149) (T := TX12) (N := 70) (ci := 12) (ws' := (MW cI cJ M mr (upd (upd (upd (upd mi 22 x_99) 23 x_5) 24 2) 25 r_161) mf mg)) E hw167 inX12 tyX12_ok nmX12 0 24 q_1423 rfl rfl (by decide) rfl rfl rfl rfl (Nat.le_of_ble_eq_true rfl) rfl dX12_reads_149 (fun H locs hw169 => ?_)
                            refine lv_goto (pc := 152) (tgt := 273) E.1 E.2.1 dX12_reads_152 (by decide) ?_
                            exact em_v (w1 := (fun (u : Int32 × Int32 × Int32 × Int32) => (MW cI cJ M mr (upd (upd (upd (upd mi 22 u.1) 23 u.2.1) 24 u.2.2.1) 25 u.2.2.2) mf mg))) E hr hlk (x_99, x_5, 2, r_161) hw169 ⟨hi_5_0, (by show x_5.toInt ≤ x_99.toInt; have k_0 : (2 : Int32).toInt = 2 := (by decide +kernel); omega), hi_99_1, (by show 0 ≤ (2 : Int32).toInt; have k_0 : (2 : Int32).toInt = 2 := (by decide +kernel); omega), (by show (2 : Int32).toInt ≤ 4; have k_0 : (2 : Int32).toInt = 2 := (by decide +kernel); omega), (by show (2 : Int32).toInt ≤ 4 * x_99.toInt - 4 * x_5.toInt; have k_0 : (2 : Int32).toInt = 2 := (by decide +kernel); omega), hi_5_2, (show AGN ((2 : Int32).toInt) r_161.toInt x_5.toInt x_99.toInt from (AGN_tk (TKR_let hst_65 (hp_72 (by omega)) (by omega) (by omega) (ltr_t (by omega)) rfl hst_159 hp_166 (Or.inr ⟨by omega, by decide +kernel⟩)))), (show TKR (mf 20) (mi 21).toInt (mi 22).toInt x_5.toInt x_99.toInt (2 : Int32).toInt r_161.toInt from (TKR_let hst_65 (hp_72 (by omega)) (by omega) (by omega) (ltr_t (by omega)) rfl hst_159 hp_166 (Or.inr ⟨by omega, by decide +kernel⟩)))⟩ (Nat.le_of_ble_eq_true rfl) (Nat.le_of_ble_eq_true rfl) dX12_reads_273
                        · skip
                          have ha_149 : 91 ≤ r_104.toInt := ha_149
                          have ha_150 : r_104.toInt ≤ 96 := ha_150
                          refine lv_if_eq (pc := 107) (tgt := 123) E.1 E.2.1 dX12_reads_107 (by decide) (fun _ => ?_) (fun c_170 => absurd (meqE (a := 0) (b := 0) (by decide +kernel) (by decide +kernel) (by omega)) c_170)
                          have hst_171 : x_99.toInt = rnI ltrB (mf 20) (mi 21).toInt x_5.toInt := rnI_stop hi_99_3 (hp_107 (by omega)) (by omega) (by omega) (ltr_f (by omega))
                          refine lv_aload_n (pc := 123) E.1 E.2.1 dX12_reads_123 rfl (lv_at hl102 1 rfl) ?_
                          refine lv_aload_n (pc := 124) E.1 E.2.1 dX12_reads_124 rfl (lv_at hl102 1 rfl) ?_
                          refine lv_aload_n (pc := 125) E.1 E.2.1 dX12_reads_125 rfl (lv_at hl102 1 rfl) ?_
                          refine x_get (pc := 126) (T := TX12) (N := 70) (ci := 12) (v := .int x_5) E hw142 inX12 0 23 q_1422 rfl rfl (by decide) rfl rfl dX12_reads_126 ?_
                          refine lv_aload_n (pc := 129) E.1 E.2.1 dX12_reads_129 rfl (lv_at hl102 1 rfl) ?_
                          refine x_get (pc := 130) (T := TX12) (N := 70) (ci := 12) (v := .int x_99) E hw142 inX12 0 22 q_1421 rfl rfl (by decide) rfl rfl dX12_reads_130 ?_
                          refine cm_i (pc := 133) hw142 (rn_M (As := [.int x_5, .int x_99]) (rest := [.ref M]) E hw142 (s_wordAtT l D cI cJ _ M mr (upd (upd (upd (upd mi 22 x_99) 23 x_5) 24 1) 25 r_69) mf mg x_5 x_99 hi_5_0 (by show x_5.toInt ≤ x_99.toInt; omega) (by show x_99.toInt ≤ 400; omega) h3 (show (∀ j : Nat, j < 154 → (mf 26) j = w0 j) from lf_words) (show LT (mf 20) (x_5).toInt (x_99).toInt from hi_99_2)) (gdV q_1678 q_1680 q_55 q_162 q_1681) hdV_X12_wordAt ⟨rfl, rfl⟩ ⟨(Nat.le_of_ble_eq_true rfl), (Nat.le_of_ble_eq_true rfl)⟩ ⟨(Nat.le_of_ble_eq_true rfl), (Nat.le_of_ble_eq_true rfl)⟩ 12 rfl rfl rfl rfl hl102.1 rfl (Nat.le_of_ble_eq_true rfl) dX12_reads_133) (fun r_173 u_172 H1 locs hp hw174 => ?_)
                          generalize H1 = H at hw174 ⊢
                          have hw175 : WD D A s.heap (MW cI cJ M mr (upd (upd (upd (upd mi 22 x_99) 23 x_5) 24 1) 25 r_69) mf mg) H locs := hw174
                          obtain ⟨hp_176, hp_177, hp_178⟩ := hp
                          have hp_176 : (-1) ≤ r_173.toInt := hp_176
                          have hp_177 : r_173.toInt ≤ 30 := hp_177
                          have hp_178 : (r_173 : Int32).toInt = wxI (mf 20) (x_5).toInt (x_99).toInt WL 0 := hp_178
                          refine x_put (pc := 136) (T := TX12) (N := 70) (ci := 12) (ws' := (MW cI cJ M mr (upd (upd (upd (upd mi 22 x_99) 23 x_5) 24 1) 25 r_173) mf mg)) E hw175 inX12 tyX12_ok nmX12 0 25 q_1424 rfl rfl (by decide) rfl rfl rfl rfl (Nat.le_of_ble_eq_true rfl) rfl dX12_reads_136 (fun H locs hw179 => ?_)
                          refine lv_aload_n (pc := 139) E.1 E.2.1 dX12_reads_139 rfl (lv_at hl102 1 rfl) ?_
                          refine x_get (pc := 140) (T := TX12) (N := 70) (ci := 12) (v := .int r_173) E hw179 inX12 0 25 q_1424 rfl rfl (by decide) rfl rfl dX12_reads_140 ?_
                          refine lv_iconst (pc := 143) (v := (-1)) E.1 E.2.1 dX12_reads_143 (by decide +kernel) ?_
                          refine lv_icmp_eq (pc := 144) (tgt := 273) E.1 E.2.1 dX12_reads_144 (by decide) (fun c_180 => ?_) (fun c_180 => ?_)
                          · skip
                            have hc_180 := eqE (a := r_173.toInt) (b := (-1)) rfl (by decide +kernel) c_180
                            exact em_v (w1 := (fun (u : Int32 × Int32 × Int32 × Int32) => (MW cI cJ M mr (upd (upd (upd (upd mi 22 u.1) 23 u.2.1) 24 u.2.2.1) 25 u.2.2.2) mf mg))) E hr hlk (x_99, x_5, 1, r_173) hw179 ⟨hi_5_0, (by show x_5.toInt ≤ x_99.toInt; have k_0 : (1 : Int32).toInt = 1 := (by decide +kernel); omega), hi_99_1, (by show 0 ≤ (1 : Int32).toInt; have k_0 : (1 : Int32).toInt = 1 := (by decide +kernel); omega), (by show (1 : Int32).toInt ≤ 4; have k_0 : (1 : Int32).toInt = 1 := (by decide +kernel); omega), (by show (1 : Int32).toInt ≤ 4 * x_99.toInt - 4 * x_5.toInt; have k_0 : (1 : Int32).toInt = 1 := (by decide +kernel); omega), hi_5_2, (show AGN ((1 : Int32).toInt) r_173.toInt x_5.toInt x_99.toInt from (AGN_tk (TKR_let hst_65 (hp_72 (by omega)) (by omega) (by omega) (ltr_t (by omega)) rfl hst_171 hp_178 (Or.inl ⟨by omega, by decide +kernel⟩)))), (show TKR (mf 20) (mi 21).toInt (mi 22).toInt x_5.toInt x_99.toInt (1 : Int32).toInt r_173.toInt from (TKR_let hst_65 (hp_72 (by omega)) (by omega) (by omega) (ltr_t (by omega)) rfl hst_171 hp_178 (Or.inl ⟨by omega, by decide +kernel⟩)))⟩ (Nat.le_of_ble_eq_true rfl) (Nat.le_of_ble_eq_true rfl) dX12_reads_273
                          · skip
                            have hc_180 := neE (a := r_173.toInt) (b := (-1)) rfl (by decide +kernel) c_180
                            refine lv_aload_n (pc := 147) E.1 E.2.1 dX12_reads_147 rfl (lv_at hl102 1 rfl) ?_
                            refine lv_iconst (pc := 148) (v := 2) E.1 E.2.1 dX12_reads_148 (by decide +kernel) ?_
                            refine x_put (pc := 149) (T := TX12) (N := 70) (ci := 12) (ws' := (MW cI cJ M mr (upd (upd (upd (upd mi 22 x_99) 23 x_5) 24 2) 25 r_173) mf mg)) E hw179 inX12 tyX12_ok nmX12 0 24 q_1423 rfl rfl (by decide) rfl rfl rfl rfl (Nat.le_of_ble_eq_true rfl) rfl dX12_reads_149 (fun H locs hw181 => ?_)
                            refine lv_goto (pc := 152) (tgt := 273) E.1 E.2.1 dX12_reads_152 (by decide) ?_
                            exact em_v (w1 := (fun (u : Int32 × Int32 × Int32 × Int32) => (MW cI cJ M mr (upd (upd (upd (upd mi 22 u.1) 23 u.2.1) 24 u.2.2.1) 25 u.2.2.2) mf mg))) E hr hlk (x_99, x_5, 2, r_173) hw181 ⟨hi_5_0, (by show x_5.toInt ≤ x_99.toInt; have k_0 : (2 : Int32).toInt = 2 := (by decide +kernel); omega), hi_99_1, (by show 0 ≤ (2 : Int32).toInt; have k_0 : (2 : Int32).toInt = 2 := (by decide +kernel); omega), (by show (2 : Int32).toInt ≤ 4; have k_0 : (2 : Int32).toInt = 2 := (by decide +kernel); omega), (by show (2 : Int32).toInt ≤ 4 * x_99.toInt - 4 * x_5.toInt; have k_0 : (2 : Int32).toInt = 2 := (by decide +kernel); omega), hi_5_2, (show AGN ((2 : Int32).toInt) r_173.toInt x_5.toInt x_99.toInt from (AGN_tk (TKR_let hst_65 (hp_72 (by omega)) (by omega) (by omega) (ltr_t (by omega)) rfl hst_171 hp_178 (Or.inr ⟨by omega, by decide +kernel⟩)))), (show TKR (mf 20) (mi 21).toInt (mi 22).toInt x_5.toInt x_99.toInt (2 : Int32).toInt r_173.toInt from (TKR_let hst_65 (hp_72 (by omega)) (by omega) (by omega) (ltr_t (by omega)) rfl hst_171 hp_178 (Or.inr ⟨by omega, by decide +kernel⟩)))⟩ (Nat.le_of_ble_eq_true rfl) (Nat.le_of_ble_eq_true rfl) dX12_reads_273
                        · skip
                          have ha_151 : 123 ≤ r_104.toInt := ha_151
                          refine lv_if_eq (pc := 107) (tgt := 123) E.1 E.2.1 dX12_reads_107 (by decide) (fun _ => ?_) (fun c_182 => absurd (meqE (a := 0) (b := 0) (by decide +kernel) (by decide +kernel) (by omega)) c_182)
                          have hst_183 : x_99.toInt = rnI ltrB (mf 20) (mi 21).toInt x_5.toInt := rnI_stop hi_99_3 (hp_107 (by omega)) (by omega) (by omega) (ltr_f (by omega))
                          refine lv_aload_n (pc := 123) E.1 E.2.1 dX12_reads_123 rfl (lv_at hl102 1 rfl) ?_
                          refine lv_aload_n (pc := 124) E.1 E.2.1 dX12_reads_124 rfl (lv_at hl102 1 rfl) ?_
                          refine lv_aload_n (pc := 125) E.1 E.2.1 dX12_reads_125 rfl (lv_at hl102 1 rfl) ?_
                          refine x_get (pc := 126) (T := TX12) (N := 70) (ci := 12) (v := .int x_5) E hw142 inX12 0 23 q_1422 rfl rfl (by decide) rfl rfl dX12_reads_126 ?_
                          refine lv_aload_n (pc := 129) E.1 E.2.1 dX12_reads_129 rfl (lv_at hl102 1 rfl) ?_
                          refine x_get (pc := 130) (T := TX12) (N := 70) (ci := 12) (v := .int x_99) E hw142 inX12 0 22 q_1421 rfl rfl (by decide) rfl rfl dX12_reads_130 ?_
                          refine cm_i (pc := 133) hw142 (rn_M (As := [.int x_5, .int x_99]) (rest := [.ref M]) E hw142 (s_wordAtT l D cI cJ _ M mr (upd (upd (upd (upd mi 22 x_99) 23 x_5) 24 1) 25 r_69) mf mg x_5 x_99 hi_5_0 (by show x_5.toInt ≤ x_99.toInt; omega) (by show x_99.toInt ≤ 400; omega) h3 (show (∀ j : Nat, j < 154 → (mf 26) j = w0 j) from lf_words) (show LT (mf 20) (x_5).toInt (x_99).toInt from hi_99_2)) (gdV q_1678 q_1680 q_55 q_162 q_1681) hdV_X12_wordAt ⟨rfl, rfl⟩ ⟨(Nat.le_of_ble_eq_true rfl), (Nat.le_of_ble_eq_true rfl)⟩ ⟨(Nat.le_of_ble_eq_true rfl), (Nat.le_of_ble_eq_true rfl)⟩ 12 rfl rfl rfl rfl hl102.1 rfl (Nat.le_of_ble_eq_true rfl) dX12_reads_133) (fun r_185 u_184 H1 locs hp hw186 => ?_)
                          generalize H1 = H at hw186 ⊢
                          have hw187 : WD D A s.heap (MW cI cJ M mr (upd (upd (upd (upd mi 22 x_99) 23 x_5) 24 1) 25 r_69) mf mg) H locs := hw186
                          obtain ⟨hp_188, hp_189, hp_190⟩ := hp
                          have hp_188 : (-1) ≤ r_185.toInt := hp_188
                          have hp_189 : r_185.toInt ≤ 30 := hp_189
                          have hp_190 : (r_185 : Int32).toInt = wxI (mf 20) (x_5).toInt (x_99).toInt WL 0 := hp_190
                          refine x_put (pc := 136) (T := TX12) (N := 70) (ci := 12) (ws' := (MW cI cJ M mr (upd (upd (upd (upd mi 22 x_99) 23 x_5) 24 1) 25 r_185) mf mg)) E hw187 inX12 tyX12_ok nmX12 0 25 q_1424 rfl rfl (by decide) rfl rfl rfl rfl (Nat.le_of_ble_eq_true rfl) rfl dX12_reads_136 (fun H locs hw191 => ?_)
                          refine lv_aload_n (pc := 139) E.1 E.2.1 dX12_reads_139 rfl (lv_at hl102 1 rfl) ?_
                          refine x_get (pc := 140) (T := TX12) (N := 70) (ci := 12) (v := .int r_185) E hw191 inX12 0 25 q_1424 rfl rfl (by decide) rfl rfl dX12_reads_140 ?_
                          refine lv_iconst (pc := 143) (v := (-1)) E.1 E.2.1 dX12_reads_143 (by decide +kernel) ?_
                          refine lv_icmp_eq (pc := 144) (tgt := 273) E.1 E.2.1 dX12_reads_144 (by decide) (fun c_192 => ?_) (fun c_192 => ?_)
                          · skip
                            have hc_192 := eqE (a := r_185.toInt) (b := (-1)) rfl (by decide +kernel) c_192
                            exact em_v (w1 := (fun (u : Int32 × Int32 × Int32 × Int32) => (MW cI cJ M mr (upd (upd (upd (upd mi 22 u.1) 23 u.2.1) 24 u.2.2.1) 25 u.2.2.2) mf mg))) E hr hlk (x_99, x_5, 1, r_185) hw191 ⟨hi_5_0, (by show x_5.toInt ≤ x_99.toInt; have k_0 : (1 : Int32).toInt = 1 := (by decide +kernel); omega), hi_99_1, (by show 0 ≤ (1 : Int32).toInt; have k_0 : (1 : Int32).toInt = 1 := (by decide +kernel); omega), (by show (1 : Int32).toInt ≤ 4; have k_0 : (1 : Int32).toInt = 1 := (by decide +kernel); omega), (by show (1 : Int32).toInt ≤ 4 * x_99.toInt - 4 * x_5.toInt; have k_0 : (1 : Int32).toInt = 1 := (by decide +kernel); omega), hi_5_2, (show AGN ((1 : Int32).toInt) r_185.toInt x_5.toInt x_99.toInt from (AGN_tk (TKR_let hst_65 (hp_72 (by omega)) (by omega) (by omega) (ltr_t (by omega)) rfl hst_183 hp_190 (Or.inl ⟨by omega, by decide +kernel⟩)))), (show TKR (mf 20) (mi 21).toInt (mi 22).toInt x_5.toInt x_99.toInt (1 : Int32).toInt r_185.toInt from (TKR_let hst_65 (hp_72 (by omega)) (by omega) (by omega) (ltr_t (by omega)) rfl hst_183 hp_190 (Or.inl ⟨by omega, by decide +kernel⟩)))⟩ (Nat.le_of_ble_eq_true rfl) (Nat.le_of_ble_eq_true rfl) dX12_reads_273
                          · skip
                            have hc_192 := neE (a := r_185.toInt) (b := (-1)) rfl (by decide +kernel) c_192
                            refine lv_aload_n (pc := 147) E.1 E.2.1 dX12_reads_147 rfl (lv_at hl102 1 rfl) ?_
                            refine lv_iconst (pc := 148) (v := 2) E.1 E.2.1 dX12_reads_148 (by decide +kernel) ?_
                            refine x_put (pc := 149) (T := TX12) (N := 70) (ci := 12) (ws' := (MW cI cJ M mr (upd (upd (upd (upd mi 22 x_99) 23 x_5) 24 2) 25 r_185) mf mg)) E hw191 inX12 tyX12_ok nmX12 0 24 q_1423 rfl rfl (by decide) rfl rfl rfl rfl (Nat.le_of_ble_eq_true rfl) rfl dX12_reads_149 (fun H locs hw193 => ?_)
                            refine lv_goto (pc := 152) (tgt := 273) E.1 E.2.1 dX12_reads_152 (by decide) ?_
                            exact em_v (w1 := (fun (u : Int32 × Int32 × Int32 × Int32) => (MW cI cJ M mr (upd (upd (upd (upd mi 22 u.1) 23 u.2.1) 24 u.2.2.1) 25 u.2.2.2) mf mg))) E hr hlk (x_99, x_5, 2, r_185) hw193 ⟨hi_5_0, (by show x_5.toInt ≤ x_99.toInt; have k_0 : (2 : Int32).toInt = 2 := (by decide +kernel); omega), hi_99_1, (by show 0 ≤ (2 : Int32).toInt; have k_0 : (2 : Int32).toInt = 2 := (by decide +kernel); omega), (by show (2 : Int32).toInt ≤ 4; have k_0 : (2 : Int32).toInt = 2 := (by decide +kernel); omega), (by show (2 : Int32).toInt ≤ 4 * x_99.toInt - 4 * x_5.toInt; have k_0 : (2 : Int32).toInt = 2 := (by decide +kernel); omega), hi_5_2, (show AGN ((2 : Int32).toInt) r_185.toInt x_5.toInt x_99.toInt from (AGN_tk (TKR_let hst_65 (hp_72 (by omega)) (by omega) (by omega) (ltr_t (by omega)) rfl hst_183 hp_190 (Or.inr ⟨by omega, by decide +kernel⟩)))), (show TKR (mf 20) (mi 21).toInt (mi 22).toInt x_5.toInt x_99.toInt (2 : Int32).toInt r_185.toInt from (TKR_let hst_65 (hp_72 (by omega)) (by omega) (by omega) (ltr_t (by omega)) rfl hst_183 hp_190 (Or.inr ⟨by omega, by decide +kernel⟩)))⟩ (Nat.le_of_ble_eq_true rfl) (Nat.le_of_ble_eq_true rfl) dX12_reads_273
                  exact loop_98 (Int.toNat ((mi 21).toInt - v_81.toInt) + 1) v_81 _ _ _ ⟨(by show x_5.toInt + 1 ≤ v_81.toInt; omega), (by show v_81.toInt ≤ (mi 21).toInt; omega), (LT_one (i := x_5) (v := r_69) (hp_72 (by omega)) (by omega) (by omega) (by omega) (by omega)), (rnI_step (i := x_5) rfl (hp_72 (by omega)) (by omega) (by omega) (ltr_t (by omega)) (m := v_81.toInt) (by omega))⟩ (by omega) hw87 (lv_sub hl79 [0, 1] rfl)
                · skip
                  have ha_91 : 65 ≤ r_69.toInt := ha_91
                  have ha_92 : r_69.toInt ≤ 90 := ha_92
                  refine lv_if_eq (pc := 92) (tgt := 155) E.1 E.2.1 dX12_reads_92 (by decide) (fun c_194 => absurd c_194 (mneE (a := 1) (b := 0) (by decide +kernel) (by decide +kernel) (by omega))) (fun _ => ?_)
                  have loop_195 : ∀ (k : Nat) (x_196 : Int32) (H : Heap) (locs : List Loc) (ls : Array Slot), (x_5.toInt + 1 ≤ x_196.toInt) ∧ (x_196.toInt ≤ (mi 21).toInt) ∧ (LT (mf 20) x_5.toInt x_196.toInt) ∧ (rnI ltrB (mf 20) (mi 21).toInt x_196.toInt = rnI ltrB (mf 20) (mi 21).toInt x_5.toInt) → (mi 21).toInt - x_196.toInt < (k : Int) → WD D A s.heap (MW cI cJ M mr (upd (upd (upd (upd mi 22 x_196) 23 x_5) 24 1) 25 r_69) mf mg) H locs → lv_has ls 2 [(1, .int r_69), (0, .ref M)] → W p l e ({ frames := 3, cells := 0, slots := 0, locals := 84 } : Room) s m ([.ref M] : List Value).toArray below meth c H locs 0 0 (MQ below (va_Qv (fun (u : Int32 × Int32 × Int32 × Int32) => (0 ≤ u.2.1.toInt) ∧ (u.2.1.toInt ≤ u.1.toInt) ∧ (u.1.toInt ≤ (mi 21).toInt) ∧ (0 ≤ u.2.2.1.toInt) ∧ (u.2.2.1.toInt ≤ 4) ∧ (u.2.2.1.toInt ≤ 4 * u.1.toInt - 4 * u.2.1.toInt) ∧ ((mi 22).toInt ≤ u.2.1.toInt) ∧ (AGN u.2.2.1.toInt u.2.2.2.toInt u.2.1.toInt u.1.toInt) ∧ (TKR (mf 20) (mi 21).toInt (mi 22).toInt u.2.1.toInt u.1.toInt u.2.2.1.toInt u.2.2.2.toInt)) (fun u => QW D cI cJ A ((fun (u : Int32 × Int32 × Int32 × Int32) => (MW cI cJ M mr (upd (upd (upd (upd mi 22 u.1) 23 u.2.1) 24 u.2.2.1) 25 u.2.2.2) mf mg)) u)) A) ([.ref M] : List Value).toArray s 0 0 A) (F0 m 95 ls []) := by
                    intro k
                    induction k with
                    | zero =>
                      intro x_196 _ _ _ hinv hm
                      obtain ⟨hi_196_0, hi_196_1, hi_196_2, hi_196_3⟩ := hinv
                      exact absurd hm (by omega)
                    | succ k ih_197 =>
                      intro x_196 H locs ls hinv hm hw198 hl199
                      obtain ⟨hi_196_0, hi_196_1, hi_196_2, hi_196_3⟩ := hinv
                      refine lv_aload_n (pc := 95) E.1 E.2.1 dX12_reads_95 rfl (lv_at hl199 1 rfl) ?_
                      refine lv_aload_n (pc := 96) E.1 E.2.1 dX12_reads_96 rfl (lv_at hl199 1 rfl) ?_
                      refine lv_aload_n (pc := 97) E.1 E.2.1 dX12_reads_97 rfl (lv_at hl199 1 rfl) ?_
                      refine x_get (pc := 98) (T := TX12) (N := 70) (ci := 12) (v := .int x_196) E hw198 inX12 0 22 q_1421 rfl rfl (by decide) rfl rfl dX12_reads_98 ?_
                      refine cm_i (pc := 101) hw198 (rn_M (As := [.int x_196]) (rest := [.ref M]) E hw198 (s_rawT l D cI cJ _ M mr (upd (upd (upd (upd mi 22 x_196) 23 x_5) 24 1) 25 r_69) mf mg x_196 (by show 0 ≤ x_196.toInt; omega) (by show 0 ≤ (mi 21).toInt ∧ (mi 21).toInt ≤ 400; omega) a_tape) (gdV q_1670 q_1672 q_53 q_162 q_1673) hdV_X12_raw ⟨rfl, rfl⟩ ⟨(Nat.le_of_ble_eq_true rfl), (Nat.le_of_ble_eq_true rfl)⟩ ⟨(Nat.le_of_ble_eq_true rfl), (Nat.le_of_ble_eq_true rfl)⟩ 12 rfl rfl rfl rfl hl199.1 rfl (Nat.le_of_ble_eq_true rfl) dX12_reads_101) (fun r_201 u_200 H1 locs hp hw202 => ?_)
                      generalize H1 = H at hw202 ⊢
                      have hw203 : WD D A s.heap (MW cI cJ M mr (upd (upd (upd (upd mi 22 x_196) 23 x_5) 24 1) 25 r_69) mf mg) H locs := hw202
                      obtain ⟨hp_204, hp_205⟩ := hp
                      have hp_204 : (x_196).toInt < (mi 21).toInt → r_201 = (mf 20) (x_196).toNatClampNeg := hp_204
                      rcases hp_205 with ⟨ha_206, ha_207⟩ | ⟨ha_208, ha_209, ha_210⟩
                      · skip
                        have ha_206 : (mi 21).toInt ≤ x_196.toInt := ha_206
                        have ha_207 : r_201.toInt = (-1) := ha_207
                        refine cm_i (pc := 104) hw203 (rn_M (As := [.int r_201]) (rest := []) E hw203 (s_isLetterT l D cI cJ _ M mr (upd (upd (upd (upd mi 22 x_196) 23 x_5) 24 1) 25 r_69) mf mg r_201) (gdV q_1674 q_1676 q_54 q_162 q_1677) hdV_X12_isLetter ⟨rfl, rfl⟩ ⟨(Nat.le_of_ble_eq_true rfl), (Nat.le_of_ble_eq_true rfl)⟩ ⟨(Nat.le_of_ble_eq_true rfl), (Nat.le_of_ble_eq_true rfl)⟩ 12 rfl rfl rfl rfl hl199.1 rfl (Nat.le_of_ble_eq_true rfl) dX12_reads_104) (fun r_212 u_211 H1 locs hp hw213 => ?_)
                        generalize H1 = H at hw213 ⊢
                        have hw214 : WD D A s.heap (MW cI cJ M mr (upd (upd (upd (upd mi 22 x_196) 23 x_5) 24 1) 25 r_69) mf mg) H locs := hw213
                        have hp_215 := hp
                        rcases hp_215 with ⟨rfl, ha_216, ha_217⟩ | ⟨rfl, ha_218, ha_219⟩ | ⟨rfl, ha_220⟩ | ⟨rfl, ha_221, ha_222⟩ | ⟨rfl, ha_223⟩
                        · skip
                          have ha_216 : 97 ≤ r_201.toInt := ha_216
                          have ha_217 : r_201.toInt ≤ 122 := ha_217
                          exfalso; omega
                        · skip
                          have ha_218 : 65 ≤ r_201.toInt := ha_218
                          have ha_219 : r_201.toInt ≤ 90 := ha_219
                          exfalso; omega
                        · skip
                          have ha_220 : r_201.toInt ≤ 64 := ha_220
                          refine lv_if_eq (pc := 107) (tgt := 123) E.1 E.2.1 dX12_reads_107 (by decide) (fun _ => ?_) (fun c_224 => absurd (meqE (a := 0) (b := 0) (by decide +kernel) (by decide +kernel) (by omega)) c_224)
                          have hst_225 : x_196.toInt = rnI ltrB (mf 20) (mi 21).toInt x_5.toInt := rnI_full hi_196_3 (by omega)
                          refine lv_aload_n (pc := 123) E.1 E.2.1 dX12_reads_123 rfl (lv_at hl199 1 rfl) ?_
                          refine lv_aload_n (pc := 124) E.1 E.2.1 dX12_reads_124 rfl (lv_at hl199 1 rfl) ?_
                          refine lv_aload_n (pc := 125) E.1 E.2.1 dX12_reads_125 rfl (lv_at hl199 1 rfl) ?_
                          refine x_get (pc := 126) (T := TX12) (N := 70) (ci := 12) (v := .int x_5) E hw214 inX12 0 23 q_1422 rfl rfl (by decide) rfl rfl dX12_reads_126 ?_
                          refine lv_aload_n (pc := 129) E.1 E.2.1 dX12_reads_129 rfl (lv_at hl199 1 rfl) ?_
                          refine x_get (pc := 130) (T := TX12) (N := 70) (ci := 12) (v := .int x_196) E hw214 inX12 0 22 q_1421 rfl rfl (by decide) rfl rfl dX12_reads_130 ?_
                          refine cm_i (pc := 133) hw214 (rn_M (As := [.int x_5, .int x_196]) (rest := [.ref M]) E hw214 (s_wordAtT l D cI cJ _ M mr (upd (upd (upd (upd mi 22 x_196) 23 x_5) 24 1) 25 r_69) mf mg x_5 x_196 hi_5_0 (by show x_5.toInt ≤ x_196.toInt; omega) (by show x_196.toInt ≤ 400; omega) h3 (show (∀ j : Nat, j < 154 → (mf 26) j = w0 j) from lf_words) (show LT (mf 20) (x_5).toInt (x_196).toInt from hi_196_2)) (gdV q_1678 q_1680 q_55 q_162 q_1681) hdV_X12_wordAt ⟨rfl, rfl⟩ ⟨(Nat.le_of_ble_eq_true rfl), (Nat.le_of_ble_eq_true rfl)⟩ ⟨(Nat.le_of_ble_eq_true rfl), (Nat.le_of_ble_eq_true rfl)⟩ 12 rfl rfl rfl rfl hl199.1 rfl (Nat.le_of_ble_eq_true rfl) dX12_reads_133) (fun r_227 u_226 H1 locs hp hw228 => ?_)
                          generalize H1 = H at hw228 ⊢
                          have hw229 : WD D A s.heap (MW cI cJ M mr (upd (upd (upd (upd mi 22 x_196) 23 x_5) 24 1) 25 r_69) mf mg) H locs := hw228
                          obtain ⟨hp_230, hp_231, hp_232⟩ := hp
                          have hp_230 : (-1) ≤ r_227.toInt := hp_230
                          have hp_231 : r_227.toInt ≤ 30 := hp_231
                          have hp_232 : (r_227 : Int32).toInt = wxI (mf 20) (x_5).toInt (x_196).toInt WL 0 := hp_232
                          refine x_put (pc := 136) (T := TX12) (N := 70) (ci := 12) (ws' := (MW cI cJ M mr (upd (upd (upd (upd mi 22 x_196) 23 x_5) 24 1) 25 r_227) mf mg)) E hw229 inX12 tyX12_ok nmX12 0 25 q_1424 rfl rfl (by decide) rfl rfl rfl rfl (Nat.le_of_ble_eq_true rfl) rfl dX12_reads_136 (fun H locs hw233 => ?_)
                          refine lv_aload_n (pc := 139) E.1 E.2.1 dX12_reads_139 rfl (lv_at hl199 1 rfl) ?_
                          refine x_get (pc := 140) (T := TX12) (N := 70) (ci := 12) (v := .int r_227) E hw233 inX12 0 25 q_1424 rfl rfl (by decide) rfl rfl dX12_reads_140 ?_
                          refine lv_iconst (pc := 143) (v := (-1)) E.1 E.2.1 dX12_reads_143 (by decide +kernel) ?_
                          refine lv_icmp_eq (pc := 144) (tgt := 273) E.1 E.2.1 dX12_reads_144 (by decide) (fun c_234 => ?_) (fun c_234 => ?_)
                          · skip
                            have hc_234 := eqE (a := r_227.toInt) (b := (-1)) rfl (by decide +kernel) c_234
                            exact em_v (w1 := (fun (u : Int32 × Int32 × Int32 × Int32) => (MW cI cJ M mr (upd (upd (upd (upd mi 22 u.1) 23 u.2.1) 24 u.2.2.1) 25 u.2.2.2) mf mg))) E hr hlk (x_196, x_5, 1, r_227) hw233 ⟨hi_5_0, (by show x_5.toInt ≤ x_196.toInt; have k_0 : (1 : Int32).toInt = 1 := (by decide +kernel); omega), hi_196_1, (by show 0 ≤ (1 : Int32).toInt; have k_0 : (1 : Int32).toInt = 1 := (by decide +kernel); omega), (by show (1 : Int32).toInt ≤ 4; have k_0 : (1 : Int32).toInt = 1 := (by decide +kernel); omega), (by show (1 : Int32).toInt ≤ 4 * x_196.toInt - 4 * x_5.toInt; have k_0 : (1 : Int32).toInt = 1 := (by decide +kernel); omega), hi_5_2, (show AGN ((1 : Int32).toInt) r_227.toInt x_5.toInt x_196.toInt from (AGN_tk (TKR_let hst_65 (hp_72 (by omega)) (by omega) (by omega) (ltr_t (by omega)) rfl hst_225 hp_232 (Or.inl ⟨by omega, by decide +kernel⟩)))), (show TKR (mf 20) (mi 21).toInt (mi 22).toInt x_5.toInt x_196.toInt (1 : Int32).toInt r_227.toInt from (TKR_let hst_65 (hp_72 (by omega)) (by omega) (by omega) (ltr_t (by omega)) rfl hst_225 hp_232 (Or.inl ⟨by omega, by decide +kernel⟩)))⟩ (Nat.le_of_ble_eq_true rfl) (Nat.le_of_ble_eq_true rfl) dX12_reads_273
                          · skip
                            have hc_234 := neE (a := r_227.toInt) (b := (-1)) rfl (by decide +kernel) c_234
                            refine lv_aload_n (pc := 147) E.1 E.2.1 dX12_reads_147 rfl (lv_at hl199 1 rfl) ?_
                            refine lv_iconst (pc := 148) (v := 2) E.1 E.2.1 dX12_reads_148 (by decide +kernel) ?_
                            refine x_put (pc := 149) (T := TX12) (N := 70) (ci := 12) (ws' := (MW cI cJ M mr (upd (upd (upd (upd mi 22 x_196) 23 x_5) 24 2) 25 r_227) mf mg)) E hw233 inX12 tyX12_ok nmX12 0 24 q_1423 rfl rfl (by decide) rfl rfl rfl rfl (Nat.le_of_ble_eq_true rfl) rfl dX12_reads_149 (fun H locs hw235 => ?_)
                            refine lv_goto (pc := 152) (tgt := 273) E.1 E.2.1 dX12_reads_152 (by decide) ?_
                            exact em_v (w1 := (fun (u : Int32 × Int32 × Int32 × Int32) => (MW cI cJ M mr (upd (upd (upd (upd mi 22 u.1) 23 u.2.1) 24 u.2.2.1) 25 u.2.2.2) mf mg))) E hr hlk (x_196, x_5, 2, r_227) hw235 ⟨hi_5_0, (by show x_5.toInt ≤ x_196.toInt; have k_0 : (2 : Int32).toInt = 2 := (by decide +kernel); omega), hi_196_1, (by show 0 ≤ (2 : Int32).toInt; have k_0 : (2 : Int32).toInt = 2 := (by decide +kernel); omega), (by show (2 : Int32).toInt ≤ 4; have k_0 : (2 : Int32).toInt = 2 := (by decide +kernel); omega), (by show (2 : Int32).toInt ≤ 4 * x_196.toInt - 4 * x_5.toInt; have k_0 : (2 : Int32).toInt = 2 := (by decide +kernel); omega), hi_5_2, (show AGN ((2 : Int32).toInt) r_227.toInt x_5.toInt x_196.toInt from (AGN_tk (TKR_let hst_65 (hp_72 (by omega)) (by omega) (by omega) (ltr_t (by omega)) rfl hst_225 hp_232 (Or.inr ⟨by omega, by decide +kernel⟩)))), (show TKR (mf 20) (mi 21).toInt (mi 22).toInt x_5.toInt x_196.toInt (2 : Int32).toInt r_227.toInt from (TKR_let hst_65 (hp_72 (by omega)) (by omega) (by omega) (ltr_t (by omega)) rfl hst_225 hp_232 (Or.inr ⟨by omega, by decide +kernel⟩)))⟩ (Nat.le_of_ble_eq_true rfl) (Nat.le_of_ble_eq_true rfl) dX12_reads_273
                        · skip
                          have ha_221 : 91 ≤ r_201.toInt := ha_221
                          have ha_222 : r_201.toInt ≤ 96 := ha_222
                          exfalso; omega
                        · skip
                          have ha_223 : 123 ≤ r_201.toInt := ha_223
                          exfalso; omega
                      · skip
                        have ha_208 : x_196.toInt ≤ (mi 21).toInt - 1 := ha_208
                        have ha_209 : 0 ≤ r_201.toInt := ha_209
                        have ha_210 : r_201.toInt ≤ 255 := ha_210
                        refine cm_i (pc := 104) hw203 (rn_M (As := [.int r_201]) (rest := []) E hw203 (s_isLetterT l D cI cJ _ M mr (upd (upd (upd (upd mi 22 x_196) 23 x_5) 24 1) 25 r_69) mf mg r_201) (gdV q_1674 q_1676 q_54 q_162 q_1677) hdV_X12_isLetter ⟨rfl, rfl⟩ ⟨(Nat.le_of_ble_eq_true rfl), (Nat.le_of_ble_eq_true rfl)⟩ ⟨(Nat.le_of_ble_eq_true rfl), (Nat.le_of_ble_eq_true rfl)⟩ 12 rfl rfl rfl rfl hl199.1 rfl (Nat.le_of_ble_eq_true rfl) dX12_reads_104) (fun r_237 u_236 H1 locs hp hw238 => ?_)
                        generalize H1 = H at hw238 ⊢
                        have hw239 : WD D A s.heap (MW cI cJ M mr (upd (upd (upd (upd mi 22 x_196) 23 x_5) 24 1) 25 r_69) mf mg) H locs := hw238
                        have hp_240 := hp
                        rcases hp_240 with ⟨rfl, ha_241, ha_242⟩ | ⟨rfl, ha_243, ha_244⟩ | ⟨rfl, ha_245⟩ | ⟨rfl, ha_246, ha_247⟩ | ⟨rfl, ha_248⟩
                        · skip
                          have ha_241 : 97 ≤ r_201.toInt := ha_241
                          have ha_242 : r_201.toInt ≤ 122 := ha_242
                          refine lv_if_eq (pc := 107) (tgt := 123) E.1 E.2.1 dX12_reads_107 (by decide) (fun c_249 => absurd c_249 (mneE (a := 1) (b := 0) (by decide +kernel) (by decide +kernel) (by omega))) (fun _ => ?_)
                          refine lv_aload_n (pc := 110) E.1 E.2.1 dX12_reads_110 rfl (lv_at hl199 1 rfl) ?_
                          refine lv_aload_n (pc := 111) E.1 E.2.1 dX12_reads_111 rfl (lv_at hl199 1 rfl) ?_
                          refine x_get (pc := 112) (T := TX12) (N := 70) (ci := 12) (v := .int x_196) E hw239 inX12 0 22 q_1421 rfl rfl (by decide) rfl rfl dX12_reads_112 ?_
                          refine lv_iconst (pc := 115) (v := 1) E.1 E.2.1 dX12_reads_115 (by decide +kernel) ?_
                          refine lv_iadd (pc := 116) E.1 E.2.1 dX12_reads_116 ?_
                          refine lv_topi (fun v_250 ev_250 => ?_)
                          have hv_250 : v_250.toInt = x_196.toInt + 1 := by rw [ev_250]; exact addE rfl (by decide +kernel) (by omega)
                          refine x_put (pc := 117) (T := TX12) (N := 70) (ci := 12) (ws' := (MW cI cJ M mr (upd (upd (upd (upd mi 22 v_250) 23 x_5) 24 1) 25 r_69) mf mg)) E hw239 inX12 tyX12_ok nmX12 0 22 q_1421 rfl rfl (by decide) rfl rfl rfl rfl (Nat.le_of_ble_eq_true rfl) rfl dX12_reads_117 (fun H locs hw251 => ?_)
                          refine lv_goto (pc := 120) (tgt := 95) E.1 E.2.1 dX12_reads_120 (by decide) ?_
                          exact ih_197 v_250 _ _ _ ⟨(by show x_5.toInt + 1 ≤ v_250.toInt; omega), (by show v_250.toInt ≤ (mi 21).toInt; omega), (LT_step (i := x_196) (v := r_201) hi_196_2 (hp_204 (by omega)) (by omega) (by omega) (by omega) (by omega)), (rnI_step hi_196_3 (hp_204 (by omega)) (by omega) (by omega) (ltr_t (by omega)) (m := v_250.toInt) (by omega))⟩ (by omega) hw251 (lv_sub hl199 [0, 1] rfl)
                        · skip
                          have ha_243 : 65 ≤ r_201.toInt := ha_243
                          have ha_244 : r_201.toInt ≤ 90 := ha_244
                          refine lv_if_eq (pc := 107) (tgt := 123) E.1 E.2.1 dX12_reads_107 (by decide) (fun c_252 => absurd c_252 (mneE (a := 1) (b := 0) (by decide +kernel) (by decide +kernel) (by omega))) (fun _ => ?_)
                          refine lv_aload_n (pc := 110) E.1 E.2.1 dX12_reads_110 rfl (lv_at hl199 1 rfl) ?_
                          refine lv_aload_n (pc := 111) E.1 E.2.1 dX12_reads_111 rfl (lv_at hl199 1 rfl) ?_
                          refine x_get (pc := 112) (T := TX12) (N := 70) (ci := 12) (v := .int x_196) E hw239 inX12 0 22 q_1421 rfl rfl (by decide) rfl rfl dX12_reads_112 ?_
                          refine lv_iconst (pc := 115) (v := 1) E.1 E.2.1 dX12_reads_115 (by decide +kernel) ?_
                          refine lv_iadd (pc := 116) E.1 E.2.1 dX12_reads_116 ?_
                          refine lv_topi (fun v_253 ev_253 => ?_)
                          have hv_253 : v_253.toInt = x_196.toInt + 1 := by rw [ev_253]; exact addE rfl (by decide +kernel) (by omega)
                          refine x_put (pc := 117) (T := TX12) (N := 70) (ci := 12) (ws' := (MW cI cJ M mr (upd (upd (upd (upd mi 22 v_253) 23 x_5) 24 1) 25 r_69) mf mg)) E hw239 inX12 tyX12_ok nmX12 0 22 q_1421 rfl rfl (by decide) rfl rfl rfl rfl (Nat.le_of_ble_eq_true rfl) rfl dX12_reads_117 (fun H locs hw254 => ?_)
                          refine lv_goto (pc := 120) (tgt := 95) E.1 E.2.1 dX12_reads_120 (by decide) ?_
                          exact ih_197 v_253 _ _ _ ⟨(by show x_5.toInt + 1 ≤ v_253.toInt; omega), (by show v_253.toInt ≤ (mi 21).toInt; omega), (LT_step (i := x_196) (v := r_201) hi_196_2 (hp_204 (by omega)) (by omega) (by omega) (by omega) (by omega)), (rnI_step hi_196_3 (hp_204 (by omega)) (by omega) (by omega) (ltr_t (by omega)) (m := v_253.toInt) (by omega))⟩ (by omega) hw254 (lv_sub hl199 [0, 1] rfl)
                        · skip
                          have ha_245 : r_201.toInt ≤ 64 := ha_245
                          refine lv_if_eq (pc := 107) (tgt := 123) E.1 E.2.1 dX12_reads_107 (by decide) (fun _ => ?_) (fun c_255 => absurd (meqE (a := 0) (b := 0) (by decide +kernel) (by decide +kernel) (by omega)) c_255)
                          have hst_256 : x_196.toInt = rnI ltrB (mf 20) (mi 21).toInt x_5.toInt := rnI_stop hi_196_3 (hp_204 (by omega)) (by omega) (by omega) (ltr_f (by omega))
                          refine lv_aload_n (pc := 123) E.1 E.2.1 dX12_reads_123 rfl (lv_at hl199 1 rfl) ?_
                          refine lv_aload_n (pc := 124) E.1 E.2.1 dX12_reads_124 rfl (lv_at hl199 1 rfl) ?_
                          refine lv_aload_n (pc := 125) E.1 E.2.1 dX12_reads_125 rfl (lv_at hl199 1 rfl) ?_
                          refine x_get (pc := 126) (T := TX12) (N := 70) (ci := 12) (v := .int x_5) E hw239 inX12 0 23 q_1422 rfl rfl (by decide) rfl rfl dX12_reads_126 ?_
                          refine lv_aload_n (pc := 129) E.1 E.2.1 dX12_reads_129 rfl (lv_at hl199 1 rfl) ?_
                          refine x_get (pc := 130) (T := TX12) (N := 70) (ci := 12) (v := .int x_196) E hw239 inX12 0 22 q_1421 rfl rfl (by decide) rfl rfl dX12_reads_130 ?_
                          refine cm_i (pc := 133) hw239 (rn_M (As := [.int x_5, .int x_196]) (rest := [.ref M]) E hw239 (s_wordAtT l D cI cJ _ M mr (upd (upd (upd (upd mi 22 x_196) 23 x_5) 24 1) 25 r_69) mf mg x_5 x_196 hi_5_0 (by show x_5.toInt ≤ x_196.toInt; omega) (by show x_196.toInt ≤ 400; omega) h3 (show (∀ j : Nat, j < 154 → (mf 26) j = w0 j) from lf_words) (show LT (mf 20) (x_5).toInt (x_196).toInt from hi_196_2)) (gdV q_1678 q_1680 q_55 q_162 q_1681) hdV_X12_wordAt ⟨rfl, rfl⟩ ⟨(Nat.le_of_ble_eq_true rfl), (Nat.le_of_ble_eq_true rfl)⟩ ⟨(Nat.le_of_ble_eq_true rfl), (Nat.le_of_ble_eq_true rfl)⟩ 12 rfl rfl rfl rfl hl199.1 rfl (Nat.le_of_ble_eq_true rfl) dX12_reads_133) (fun r_258 u_257 H1 locs hp hw259 => ?_)
                          generalize H1 = H at hw259 ⊢
                          have hw260 : WD D A s.heap (MW cI cJ M mr (upd (upd (upd (upd mi 22 x_196) 23 x_5) 24 1) 25 r_69) mf mg) H locs := hw259
                          obtain ⟨hp_261, hp_262, hp_263⟩ := hp
                          have hp_261 : (-1) ≤ r_258.toInt := hp_261
                          have hp_262 : r_258.toInt ≤ 30 := hp_262
                          have hp_263 : (r_258 : Int32).toInt = wxI (mf 20) (x_5).toInt (x_196).toInt WL 0 := hp_263
                          refine x_put (pc := 136) (T := TX12) (N := 70) (ci := 12) (ws' := (MW cI cJ M mr (upd (upd (upd (upd mi 22 x_196) 23 x_5) 24 1) 25 r_258) mf mg)) E hw260 inX12 tyX12_ok nmX12 0 25 q_1424 rfl rfl (by decide) rfl rfl rfl rfl (Nat.le_of_ble_eq_true rfl) rfl dX12_reads_136 (fun H locs hw264 => ?_)
                          refine lv_aload_n (pc := 139) E.1 E.2.1 dX12_reads_139 rfl (lv_at hl199 1 rfl) ?_
                          refine x_get (pc := 140) (T := TX12) (N := 70) (ci := 12) (v := .int r_258) E hw264 inX12 0 25 q_1424 rfl rfl (by decide) rfl rfl dX12_reads_140 ?_
                          refine lv_iconst (pc := 143) (v := (-1)) E.1 E.2.1 dX12_reads_143 (by decide +kernel) ?_
                          refine lv_icmp_eq (pc := 144) (tgt := 273) E.1 E.2.1 dX12_reads_144 (by decide) (fun c_265 => ?_) (fun c_265 => ?_)
                          · skip
                            have hc_265 := eqE (a := r_258.toInt) (b := (-1)) rfl (by decide +kernel) c_265
                            exact em_v (w1 := (fun (u : Int32 × Int32 × Int32 × Int32) => (MW cI cJ M mr (upd (upd (upd (upd mi 22 u.1) 23 u.2.1) 24 u.2.2.1) 25 u.2.2.2) mf mg))) E hr hlk (x_196, x_5, 1, r_258) hw264 ⟨hi_5_0, (by show x_5.toInt ≤ x_196.toInt; have k_0 : (1 : Int32).toInt = 1 := (by decide +kernel); omega), hi_196_1, (by show 0 ≤ (1 : Int32).toInt; have k_0 : (1 : Int32).toInt = 1 := (by decide +kernel); omega), (by show (1 : Int32).toInt ≤ 4; have k_0 : (1 : Int32).toInt = 1 := (by decide +kernel); omega), (by show (1 : Int32).toInt ≤ 4 * x_196.toInt - 4 * x_5.toInt; have k_0 : (1 : Int32).toInt = 1 := (by decide +kernel); omega), hi_5_2, (show AGN ((1 : Int32).toInt) r_258.toInt x_5.toInt x_196.toInt from (AGN_tk (TKR_let hst_65 (hp_72 (by omega)) (by omega) (by omega) (ltr_t (by omega)) rfl hst_256 hp_263 (Or.inl ⟨by omega, by decide +kernel⟩)))), (show TKR (mf 20) (mi 21).toInt (mi 22).toInt x_5.toInt x_196.toInt (1 : Int32).toInt r_258.toInt from (TKR_let hst_65 (hp_72 (by omega)) (by omega) (by omega) (ltr_t (by omega)) rfl hst_256 hp_263 (Or.inl ⟨by omega, by decide +kernel⟩)))⟩ (Nat.le_of_ble_eq_true rfl) (Nat.le_of_ble_eq_true rfl) dX12_reads_273
                          · skip
                            have hc_265 := neE (a := r_258.toInt) (b := (-1)) rfl (by decide +kernel) c_265
                            refine lv_aload_n (pc := 147) E.1 E.2.1 dX12_reads_147 rfl (lv_at hl199 1 rfl) ?_
                            refine lv_iconst (pc := 148) (v := 2) E.1 E.2.1 dX12_reads_148 (by decide +kernel) ?_
                            refine x_put (pc := 149) (T := TX12) (N := 70) (ci := 12) (ws' := (MW cI cJ M mr (upd (upd (upd (upd mi 22 x_196) 23 x_5) 24 2) 25 r_258) mf mg)) E hw264 inX12 tyX12_ok nmX12 0 24 q_1423 rfl rfl (by decide) rfl rfl rfl rfl (Nat.le_of_ble_eq_true rfl) rfl dX12_reads_149 (fun H locs hw266 => ?_)
                            refine lv_goto (pc := 152) (tgt := 273) E.1 E.2.1 dX12_reads_152 (by decide) ?_
                            exact em_v (w1 := (fun (u : Int32 × Int32 × Int32 × Int32) => (MW cI cJ M mr (upd (upd (upd (upd mi 22 u.1) 23 u.2.1) 24 u.2.2.1) 25 u.2.2.2) mf mg))) E hr hlk (x_196, x_5, 2, r_258) hw266 ⟨hi_5_0, (by show x_5.toInt ≤ x_196.toInt; have k_0 : (2 : Int32).toInt = 2 := (by decide +kernel); omega), hi_196_1, (by show 0 ≤ (2 : Int32).toInt; have k_0 : (2 : Int32).toInt = 2 := (by decide +kernel); omega), (by show (2 : Int32).toInt ≤ 4; have k_0 : (2 : Int32).toInt = 2 := (by decide +kernel); omega), (by show (2 : Int32).toInt ≤ 4 * x_196.toInt - 4 * x_5.toInt; have k_0 : (2 : Int32).toInt = 2 := (by decide +kernel); omega), hi_5_2, (show AGN ((2 : Int32).toInt) r_258.toInt x_5.toInt x_196.toInt from (AGN_tk (TKR_let hst_65 (hp_72 (by omega)) (by omega) (by omega) (ltr_t (by omega)) rfl hst_256 hp_263 (Or.inr ⟨by omega, by decide +kernel⟩)))), (show TKR (mf 20) (mi 21).toInt (mi 22).toInt x_5.toInt x_196.toInt (2 : Int32).toInt r_258.toInt from (TKR_let hst_65 (hp_72 (by omega)) (by omega) (by omega) (ltr_t (by omega)) rfl hst_256 hp_263 (Or.inr ⟨by omega, by decide +kernel⟩)))⟩ (Nat.le_of_ble_eq_true rfl) (Nat.le_of_ble_eq_true rfl) dX12_reads_273
                        · skip
                          have ha_246 : 91 ≤ r_201.toInt := ha_246
                          have ha_247 : r_201.toInt ≤ 96 := ha_247
                          refine lv_if_eq (pc := 107) (tgt := 123) E.1 E.2.1 dX12_reads_107 (by decide) (fun _ => ?_) (fun c_267 => absurd (meqE (a := 0) (b := 0) (by decide +kernel) (by decide +kernel) (by omega)) c_267)
                          have hst_268 : x_196.toInt = rnI ltrB (mf 20) (mi 21).toInt x_5.toInt := rnI_stop hi_196_3 (hp_204 (by omega)) (by omega) (by omega) (ltr_f (by omega))
                          refine lv_aload_n (pc := 123) E.1 E.2.1 dX12_reads_123 rfl (lv_at hl199 1 rfl) ?_
                          refine lv_aload_n (pc := 124) E.1 E.2.1 dX12_reads_124 rfl (lv_at hl199 1 rfl) ?_
                          refine lv_aload_n (pc := 125) E.1 E.2.1 dX12_reads_125 rfl (lv_at hl199 1 rfl) ?_
                          refine x_get (pc := 126) (T := TX12) (N := 70) (ci := 12) (v := .int x_5) E hw239 inX12 0 23 q_1422 rfl rfl (by decide) rfl rfl dX12_reads_126 ?_
                          refine lv_aload_n (pc := 129) E.1 E.2.1 dX12_reads_129 rfl (lv_at hl199 1 rfl) ?_
                          refine x_get (pc := 130) (T := TX12) (N := 70) (ci := 12) (v := .int x_196) E hw239 inX12 0 22 q_1421 rfl rfl (by decide) rfl rfl dX12_reads_130 ?_
                          refine cm_i (pc := 133) hw239 (rn_M (As := [.int x_5, .int x_196]) (rest := [.ref M]) E hw239 (s_wordAtT l D cI cJ _ M mr (upd (upd (upd (upd mi 22 x_196) 23 x_5) 24 1) 25 r_69) mf mg x_5 x_196 hi_5_0 (by show x_5.toInt ≤ x_196.toInt; omega) (by show x_196.toInt ≤ 400; omega) h3 (show (∀ j : Nat, j < 154 → (mf 26) j = w0 j) from lf_words) (show LT (mf 20) (x_5).toInt (x_196).toInt from hi_196_2)) (gdV q_1678 q_1680 q_55 q_162 q_1681) hdV_X12_wordAt ⟨rfl, rfl⟩ ⟨(Nat.le_of_ble_eq_true rfl), (Nat.le_of_ble_eq_true rfl)⟩ ⟨(Nat.le_of_ble_eq_true rfl), (Nat.le_of_ble_eq_true rfl)⟩ 12 rfl rfl rfl rfl hl199.1 rfl (Nat.le_of_ble_eq_true rfl) dX12_reads_133) (fun r_270 u_269 H1 locs hp hw271 => ?_)
                          generalize H1 = H at hw271 ⊢
                          have hw272 : WD D A s.heap (MW cI cJ M mr (upd (upd (upd (upd mi 22 x_196) 23 x_5) 24 1) 25 r_69) mf mg) H locs := hw271
                          obtain ⟨hp_273, hp_274, hp_275⟩ := hp
                          have hp_273 : (-1) ≤ r_270.toInt := hp_273
                          have hp_274 : r_270.toInt ≤ 30 := hp_274
                          have hp_275 : (r_270 : Int32).toInt = wxI (mf 20) (x_5).toInt (x_196).toInt WL 0 := hp_275
                          refine x_put (pc := 136) (T := TX12) (N := 70) (ci := 12) (ws' := (MW cI cJ M mr (upd (upd (upd (upd mi 22 x_196) 23 x_5) 24 1) 25 r_270) mf mg)) E hw272 inX12 tyX12_ok nmX12 0 25 q_1424 rfl rfl (by decide) rfl rfl rfl rfl (Nat.le_of_ble_eq_true rfl) rfl dX12_reads_136 (fun H locs hw276 => ?_)
                          refine lv_aload_n (pc := 139) E.1 E.2.1 dX12_reads_139 rfl (lv_at hl199 1 rfl) ?_
                          refine x_get (pc := 140) (T := TX12) (N := 70) (ci := 12) (v := .int r_270) E hw276 inX12 0 25 q_1424 rfl rfl (by decide) rfl rfl dX12_reads_140 ?_
                          refine lv_iconst (pc := 143) (v := (-1)) E.1 E.2.1 dX12_reads_143 (by decide +kernel) ?_
                          refine lv_icmp_eq (pc := 144) (tgt := 273) E.1 E.2.1 dX12_reads_144 (by decide) (fun c_277 => ?_) (fun c_277 => ?_)
                          · skip
                            have hc_277 := eqE (a := r_270.toInt) (b := (-1)) rfl (by decide +kernel) c_277
                            exact em_v (w1 := (fun (u : Int32 × Int32 × Int32 × Int32) => (MW cI cJ M mr (upd (upd (upd (upd mi 22 u.1) 23 u.2.1) 24 u.2.2.1) 25 u.2.2.2) mf mg))) E hr hlk (x_196, x_5, 1, r_270) hw276 ⟨hi_5_0, (by show x_5.toInt ≤ x_196.toInt; have k_0 : (1 : Int32).toInt = 1 := (by decide +kernel); omega), hi_196_1, (by show 0 ≤ (1 : Int32).toInt; have k_0 : (1 : Int32).toInt = 1 := (by decide +kernel); omega), (by show (1 : Int32).toInt ≤ 4; have k_0 : (1 : Int32).toInt = 1 := (by decide +kernel); omega), (by show (1 : Int32).toInt ≤ 4 * x_196.toInt - 4 * x_5.toInt; have k_0 : (1 : Int32).toInt = 1 := (by decide +kernel); omega), hi_5_2, (show AGN ((1 : Int32).toInt) r_270.toInt x_5.toInt x_196.toInt from (AGN_tk (TKR_let hst_65 (hp_72 (by omega)) (by omega) (by omega) (ltr_t (by omega)) rfl hst_268 hp_275 (Or.inl ⟨by omega, by decide +kernel⟩)))), (show TKR (mf 20) (mi 21).toInt (mi 22).toInt x_5.toInt x_196.toInt (1 : Int32).toInt r_270.toInt from (TKR_let hst_65 (hp_72 (by omega)) (by omega) (by omega) (ltr_t (by omega)) rfl hst_268 hp_275 (Or.inl ⟨by omega, by decide +kernel⟩)))⟩ (Nat.le_of_ble_eq_true rfl) (Nat.le_of_ble_eq_true rfl) dX12_reads_273
                          · skip
                            have hc_277 := neE (a := r_270.toInt) (b := (-1)) rfl (by decide +kernel) c_277
                            refine lv_aload_n (pc := 147) E.1 E.2.1 dX12_reads_147 rfl (lv_at hl199 1 rfl) ?_
                            refine lv_iconst (pc := 148) (v := 2) E.1 E.2.1 dX12_reads_148 (by decide +kernel) ?_
                            refine x_put (pc := 149) (T := TX12) (N := 70) (ci := 12) (ws' := (MW cI cJ M mr (upd (upd (upd (upd mi 22 x_196) 23 x_5) 24 2) 25 r_270) mf mg)) E hw276 inX12 tyX12_ok nmX12 0 24 q_1423 rfl rfl (by decide) rfl rfl rfl rfl (Nat.le_of_ble_eq_true rfl) rfl dX12_reads_149 (fun H locs hw278 => ?_)
                            refine lv_goto (pc := 152) (tgt := 273) E.1 E.2.1 dX12_reads_152 (by decide) ?_
                            exact em_v (w1 := (fun (u : Int32 × Int32 × Int32 × Int32) => (MW cI cJ M mr (upd (upd (upd (upd mi 22 u.1) 23 u.2.1) 24 u.2.2.1) 25 u.2.2.2) mf mg))) E hr hlk (x_196, x_5, 2, r_270) hw278 ⟨hi_5_0, (by show x_5.toInt ≤ x_196.toInt; have k_0 : (2 : Int32).toInt = 2 := (by decide +kernel); omega), hi_196_1, (by show 0 ≤ (2 : Int32).toInt; have k_0 : (2 : Int32).toInt = 2 := (by decide +kernel); omega), (by show (2 : Int32).toInt ≤ 4; have k_0 : (2 : Int32).toInt = 2 := (by decide +kernel); omega), (by show (2 : Int32).toInt ≤ 4 * x_196.toInt - 4 * x_5.toInt; have k_0 : (2 : Int32).toInt = 2 := (by decide +kernel); omega), hi_5_2, (show AGN ((2 : Int32).toInt) r_270.toInt x_5.toInt x_196.toInt from (AGN_tk (TKR_let hst_65 (hp_72 (by omega)) (by omega) (by omega) (ltr_t (by omega)) rfl hst_268 hp_275 (Or.inr ⟨by omega, by decide +kernel⟩)))), (show TKR (mf 20) (mi 21).toInt (mi 22).toInt x_5.toInt x_196.toInt (2 : Int32).toInt r_270.toInt from (TKR_let hst_65 (hp_72 (by omega)) (by omega) (by omega) (ltr_t (by omega)) rfl hst_268 hp_275 (Or.inr ⟨by omega, by decide +kernel⟩)))⟩ (Nat.le_of_ble_eq_true rfl) (Nat.le_of_ble_eq_true rfl) dX12_reads_273
                        · skip
                          have ha_248 : 123 ≤ r_201.toInt := ha_248
                          refine lv_if_eq (pc := 107) (tgt := 123) E.1 E.2.1 dX12_reads_107 (by decide) (fun _ => ?_) (fun c_279 => absurd (meqE (a := 0) (b := 0) (by decide +kernel) (by decide +kernel) (by omega)) c_279)
                          have hst_280 : x_196.toInt = rnI ltrB (mf 20) (mi 21).toInt x_5.toInt := rnI_stop hi_196_3 (hp_204 (by omega)) (by omega) (by omega) (ltr_f (by omega))
                          refine lv_aload_n (pc := 123) E.1 E.2.1 dX12_reads_123 rfl (lv_at hl199 1 rfl) ?_
                          refine lv_aload_n (pc := 124) E.1 E.2.1 dX12_reads_124 rfl (lv_at hl199 1 rfl) ?_
                          refine lv_aload_n (pc := 125) E.1 E.2.1 dX12_reads_125 rfl (lv_at hl199 1 rfl) ?_
                          refine x_get (pc := 126) (T := TX12) (N := 70) (ci := 12) (v := .int x_5) E hw239 inX12 0 23 q_1422 rfl rfl (by decide) rfl rfl dX12_reads_126 ?_
                          refine lv_aload_n (pc := 129) E.1 E.2.1 dX12_reads_129 rfl (lv_at hl199 1 rfl) ?_
                          refine x_get (pc := 130) (T := TX12) (N := 70) (ci := 12) (v := .int x_196) E hw239 inX12 0 22 q_1421 rfl rfl (by decide) rfl rfl dX12_reads_130 ?_
                          refine cm_i (pc := 133) hw239 (rn_M (As := [.int x_5, .int x_196]) (rest := [.ref M]) E hw239 (s_wordAtT l D cI cJ _ M mr (upd (upd (upd (upd mi 22 x_196) 23 x_5) 24 1) 25 r_69) mf mg x_5 x_196 hi_5_0 (by show x_5.toInt ≤ x_196.toInt; omega) (by show x_196.toInt ≤ 400; omega) h3 (show (∀ j : Nat, j < 154 → (mf 26) j = w0 j) from lf_words) (show LT (mf 20) (x_5).toInt (x_196).toInt from hi_196_2)) (gdV q_1678 q_1680 q_55 q_162 q_1681) hdV_X12_wordAt ⟨rfl, rfl⟩ ⟨(Nat.le_of_ble_eq_true rfl), (Nat.le_of_ble_eq_true rfl)⟩ ⟨(Nat.le_of_ble_eq_true rfl), (Nat.le_of_ble_eq_true rfl)⟩ 12 rfl rfl rfl rfl hl199.1 rfl (Nat.le_of_ble_eq_true rfl) dX12_reads_133) (fun r_282 u_281 H1 locs hp hw283 => ?_)
                          generalize H1 = H at hw283 ⊢
                          have hw284 : WD D A s.heap (MW cI cJ M mr (upd (upd (upd (upd mi 22 x_196) 23 x_5) 24 1) 25 r_69) mf mg) H locs := hw283
                          obtain ⟨hp_285, hp_286, hp_287⟩ := hp
                          have hp_285 : (-1) ≤ r_282.toInt := hp_285
                          have hp_286 : r_282.toInt ≤ 30 := hp_286
                          have hp_287 : (r_282 : Int32).toInt = wxI (mf 20) (x_5).toInt (x_196).toInt WL 0 := hp_287
                          refine x_put (pc := 136) (T := TX12) (N := 70) (ci := 12) (ws' := (MW cI cJ M mr (upd (upd (upd (upd mi 22 x_196) 23 x_5) 24 1) 25 r_282) mf mg)) E hw284 inX12 tyX12_ok nmX12 0 25 q_1424 rfl rfl (by decide) rfl rfl rfl rfl (Nat.le_of_ble_eq_true rfl) rfl dX12_reads_136 (fun H locs hw288 => ?_)
                          refine lv_aload_n (pc := 139) E.1 E.2.1 dX12_reads_139 rfl (lv_at hl199 1 rfl) ?_
                          refine x_get (pc := 140) (T := TX12) (N := 70) (ci := 12) (v := .int r_282) E hw288 inX12 0 25 q_1424 rfl rfl (by decide) rfl rfl dX12_reads_140 ?_
                          refine lv_iconst (pc := 143) (v := (-1)) E.1 E.2.1 dX12_reads_143 (by decide +kernel) ?_
                          refine lv_icmp_eq (pc := 144) (tgt := 273) E.1 E.2.1 dX12_reads_144 (by decide) (fun c_289 => ?_) (fun c_289 => ?_)
                          · skip
                            have hc_289 := eqE (a := r_282.toInt) (b := (-1)) rfl (by decide +kernel) c_289
                            exact em_v (w1 := (fun (u : Int32 × Int32 × Int32 × Int32) => (MW cI cJ M mr (upd (upd (upd (upd mi 22 u.1) 23 u.2.1) 24 u.2.2.1) 25 u.2.2.2) mf mg))) E hr hlk (x_196, x_5, 1, r_282) hw288 ⟨hi_5_0, (by show x_5.toInt ≤ x_196.toInt; have k_0 : (1 : Int32).toInt = 1 := (by decide +kernel); omega), hi_196_1, (by show 0 ≤ (1 : Int32).toInt; have k_0 : (1 : Int32).toInt = 1 := (by decide +kernel); omega), (by show (1 : Int32).toInt ≤ 4; have k_0 : (1 : Int32).toInt = 1 := (by decide +kernel); omega), (by show (1 : Int32).toInt ≤ 4 * x_196.toInt - 4 * x_5.toInt; have k_0 : (1 : Int32).toInt = 1 := (by decide +kernel); omega), hi_5_2, (show AGN ((1 : Int32).toInt) r_282.toInt x_5.toInt x_196.toInt from (AGN_tk (TKR_let hst_65 (hp_72 (by omega)) (by omega) (by omega) (ltr_t (by omega)) rfl hst_280 hp_287 (Or.inl ⟨by omega, by decide +kernel⟩)))), (show TKR (mf 20) (mi 21).toInt (mi 22).toInt x_5.toInt x_196.toInt (1 : Int32).toInt r_282.toInt from (TKR_let hst_65 (hp_72 (by omega)) (by omega) (by omega) (ltr_t (by omega)) rfl hst_280 hp_287 (Or.inl ⟨by omega, by decide +kernel⟩)))⟩ (Nat.le_of_ble_eq_true rfl) (Nat.le_of_ble_eq_true rfl) dX12_reads_273
                          · skip
                            have hc_289 := neE (a := r_282.toInt) (b := (-1)) rfl (by decide +kernel) c_289
                            refine lv_aload_n (pc := 147) E.1 E.2.1 dX12_reads_147 rfl (lv_at hl199 1 rfl) ?_
                            refine lv_iconst (pc := 148) (v := 2) E.1 E.2.1 dX12_reads_148 (by decide +kernel) ?_
                            refine x_put (pc := 149) (T := TX12) (N := 70) (ci := 12) (ws' := (MW cI cJ M mr (upd (upd (upd (upd mi 22 x_196) 23 x_5) 24 2) 25 r_282) mf mg)) E hw288 inX12 tyX12_ok nmX12 0 24 q_1423 rfl rfl (by decide) rfl rfl rfl rfl (Nat.le_of_ble_eq_true rfl) rfl dX12_reads_149 (fun H locs hw290 => ?_)
                            refine lv_goto (pc := 152) (tgt := 273) E.1 E.2.1 dX12_reads_152 (by decide) ?_
                            exact em_v (w1 := (fun (u : Int32 × Int32 × Int32 × Int32) => (MW cI cJ M mr (upd (upd (upd (upd mi 22 u.1) 23 u.2.1) 24 u.2.2.1) 25 u.2.2.2) mf mg))) E hr hlk (x_196, x_5, 2, r_282) hw290 ⟨hi_5_0, (by show x_5.toInt ≤ x_196.toInt; have k_0 : (2 : Int32).toInt = 2 := (by decide +kernel); omega), hi_196_1, (by show 0 ≤ (2 : Int32).toInt; have k_0 : (2 : Int32).toInt = 2 := (by decide +kernel); omega), (by show (2 : Int32).toInt ≤ 4; have k_0 : (2 : Int32).toInt = 2 := (by decide +kernel); omega), (by show (2 : Int32).toInt ≤ 4 * x_196.toInt - 4 * x_5.toInt; have k_0 : (2 : Int32).toInt = 2 := (by decide +kernel); omega), hi_5_2, (show AGN ((2 : Int32).toInt) r_282.toInt x_5.toInt x_196.toInt from (AGN_tk (TKR_let hst_65 (hp_72 (by omega)) (by omega) (by omega) (ltr_t (by omega)) rfl hst_280 hp_287 (Or.inr ⟨by omega, by decide +kernel⟩)))), (show TKR (mf 20) (mi 21).toInt (mi 22).toInt x_5.toInt x_196.toInt (2 : Int32).toInt r_282.toInt from (TKR_let hst_65 (hp_72 (by omega)) (by omega) (by omega) (ltr_t (by omega)) rfl hst_280 hp_287 (Or.inr ⟨by omega, by decide +kernel⟩)))⟩ (Nat.le_of_ble_eq_true rfl) (Nat.le_of_ble_eq_true rfl) dX12_reads_273
                  exact loop_195 (Int.toNat ((mi 21).toInt - v_81.toInt) + 1) v_81 _ _ _ ⟨(by show x_5.toInt + 1 ≤ v_81.toInt; omega), (by show v_81.toInt ≤ (mi 21).toInt; omega), (LT_one (i := x_5) (v := r_69) (hp_72 (by omega)) (by omega) (by omega) (by omega) (by omega)), (rnI_step (i := x_5) rfl (hp_72 (by omega)) (by omega) (by omega) (ltr_t (by omega)) (m := v_81.toInt) (by omega))⟩ (by omega) hw87 (lv_sub hl79 [0, 1] rfl)
                · skip
                  have ha_93 : r_69.toInt ≤ 64 := ha_93
                  refine lv_if_eq (pc := 92) (tgt := 155) E.1 E.2.1 dX12_reads_92 (by decide) (fun _ => ?_) (fun c_291 => absurd (meqE (a := 0) (b := 0) (by decide +kernel) (by decide +kernel) (by omega)) c_291)
                  refine lv_aload_n (pc := 155) E.1 E.2.1 dX12_reads_155 rfl (lv_at hl79 1 rfl) ?_
                  refine lv_iload_n (pc := 156) E.1 E.2.1 dX12_reads_156 rfl (lv_at hl79 0 rfl) ?_
                  refine cm_i (pc := 157) hw87 (rn_M (As := [.int r_69]) (rest := []) E hw87 (s_isDigitT l D cI cJ _ M mr (upd (upd (upd (upd mi 22 v_81) 23 x_5) 24 1) 25 r_69) mf mg r_69) (gdV q_1682 q_1684 q_56 q_162 q_1685) hdV_X12_isDigit ⟨rfl, rfl⟩ ⟨(Nat.le_of_ble_eq_true rfl), (Nat.le_of_ble_eq_true rfl)⟩ ⟨(Nat.le_of_ble_eq_true rfl), (Nat.le_of_ble_eq_true rfl)⟩ 12 rfl rfl rfl rfl hl79.1 rfl (Nat.le_of_ble_eq_true rfl) dX12_reads_157) (fun r_293 u_292 H1 locs hp hw294 => ?_)
                  generalize H1 = H at hw294 ⊢
                  have hw295 : WD D A s.heap (MW cI cJ M mr (upd (upd (upd (upd mi 22 v_81) 23 x_5) 24 1) 25 r_69) mf mg) H locs := hw294
                  have hp_296 := hp
                  rcases hp_296 with ⟨rfl, ha_297, ha_298⟩ | ⟨rfl, ha_299⟩ | ⟨rfl, ha_300⟩
                  · skip
                    have ha_297 : 48 ≤ r_69.toInt := ha_297
                    have ha_298 : r_69.toInt ≤ 57 := ha_298
                    refine lv_if_eq (pc := 160) (tgt := 260) E.1 E.2.1 dX12_reads_160 (by decide) (fun c_301 => absurd c_301 (mneE (a := 1) (b := 0) (by decide +kernel) (by decide +kernel) (by omega))) (fun _ => ?_)
                    refine lv_aload_n (pc := 163) E.1 E.2.1 dX12_reads_163 rfl (lv_at hl79 1 rfl) ?_
                    refine lv_iload_n (pc := 164) E.1 E.2.1 dX12_reads_164 rfl (lv_at hl79 0 rfl) ?_
                    refine lv_bipush (pc := 165) (v := 48) E.1 E.2.1 dX12_reads_165 (by decide +kernel) ?_
                    refine lv_isub (pc := 167) E.1 E.2.1 dX12_reads_167 ?_
                    refine lv_topi (fun v_302 ev_302 => ?_)
                    have hv_302 : v_302.toInt = r_69.toInt - 48 := by rw [ev_302]; exact subE rfl (by decide +kernel) (by omega)
                    refine x_put (pc := 168) (T := TX12) (N := 70) (ci := 12) (ws' := (MW cI cJ M mr (upd (upd (upd (upd mi 22 v_81) 23 x_5) 24 1) 25 v_302) mf mg)) E hw295 inX12 tyX12_ok nmX12 0 25 q_1424 rfl rfl (by decide) rfl rfl rfl rfl (Nat.le_of_ble_eq_true rfl) rfl dX12_reads_168 (fun H locs hw303 => ?_)
                    have loop_304 : ∀ (k : Nat) (x_305 : Int32) (x_306 : Int32) (H : Heap) (locs : List Loc) (ls : Array Slot), (x_5.toInt + 1 ≤ x_305.toInt) ∧ (x_305.toInt ≤ (mi 21).toInt) ∧ (0 ≤ x_306.toInt) ∧ (x_306.toInt ≤ 99999) ∧ (rnI dgtB (mf 20) (mi 21).toInt x_305.toInt = rnI dgtB (mf 20) (mi 21).toInt x_5.toInt) ∧ (DVI (mf 20) x_5.toInt x_305.toInt x_306.toInt) → (mi 21).toInt - x_305.toInt < (k : Int) → WD D A s.heap (MW cI cJ M mr (upd (upd (upd (upd mi 22 x_305) 23 x_5) 24 1) 25 x_306) mf mg) H locs → lv_has ls 2 [(1, .int r_69), (0, .ref M)] → W p l e ({ frames := 3, cells := 0, slots := 0, locals := 84 } : Room) s m ([.ref M] : List Value).toArray below meth c H locs 0 0 (MQ below (va_Qv (fun (u : Int32 × Int32 × Int32 × Int32) => (0 ≤ u.2.1.toInt) ∧ (u.2.1.toInt ≤ u.1.toInt) ∧ (u.1.toInt ≤ (mi 21).toInt) ∧ (0 ≤ u.2.2.1.toInt) ∧ (u.2.2.1.toInt ≤ 4) ∧ (u.2.2.1.toInt ≤ 4 * u.1.toInt - 4 * u.2.1.toInt) ∧ ((mi 22).toInt ≤ u.2.1.toInt) ∧ (AGN u.2.2.1.toInt u.2.2.2.toInt u.2.1.toInt u.1.toInt) ∧ (TKR (mf 20) (mi 21).toInt (mi 22).toInt u.2.1.toInt u.1.toInt u.2.2.1.toInt u.2.2.2.toInt)) (fun u => QW D cI cJ A ((fun (u : Int32 × Int32 × Int32 × Int32) => (MW cI cJ M mr (upd (upd (upd (upd mi 22 u.1) 23 u.2.1) 24 u.2.2.1) 25 u.2.2.2) mf mg)) u)) A) ([.ref M] : List Value).toArray s 0 0 A) (F0 m 171 ls []) := by
                      intro k
                      induction k with
                      | zero =>
                        intro x_305 x_306 _ _ _ hinv hm
                        obtain ⟨hi_306_0, hi_306_1, hi_306_2, hi_306_3, hi_306_4, hi_306_5⟩ := hinv
                        exact absurd hm (by omega)
                      | succ k ih_307 =>
                        intro x_305 x_306 H locs ls hinv hm hw308 hl309
                        obtain ⟨hi_306_0, hi_306_1, hi_306_2, hi_306_3, hi_306_4, hi_306_5⟩ := hinv
                        refine lv_aload_n (pc := 171) E.1 E.2.1 dX12_reads_171 rfl (lv_at hl309 1 rfl) ?_
                        refine lv_aload_n (pc := 172) E.1 E.2.1 dX12_reads_172 rfl (lv_at hl309 1 rfl) ?_
                        refine lv_aload_n (pc := 173) E.1 E.2.1 dX12_reads_173 rfl (lv_at hl309 1 rfl) ?_
                        refine x_get (pc := 174) (T := TX12) (N := 70) (ci := 12) (v := .int x_305) E hw308 inX12 0 22 q_1421 rfl rfl (by decide) rfl rfl dX12_reads_174 ?_
                        refine cm_i (pc := 177) hw308 (rn_M (As := [.int x_305]) (rest := [.ref M]) E hw308 (s_rawT l D cI cJ _ M mr (upd (upd (upd (upd mi 22 x_305) 23 x_5) 24 1) 25 x_306) mf mg x_305 (by show 0 ≤ x_305.toInt; omega) (by show 0 ≤ (mi 21).toInt ∧ (mi 21).toInt ≤ 400; omega) a_tape) (gdV q_1670 q_1672 q_53 q_162 q_1673) hdV_X12_raw ⟨rfl, rfl⟩ ⟨(Nat.le_of_ble_eq_true rfl), (Nat.le_of_ble_eq_true rfl)⟩ ⟨(Nat.le_of_ble_eq_true rfl), (Nat.le_of_ble_eq_true rfl)⟩ 12 rfl rfl rfl rfl hl309.1 rfl (Nat.le_of_ble_eq_true rfl) dX12_reads_177) (fun r_311 u_310 H1 locs hp hw312 => ?_)
                        generalize H1 = H at hw312 ⊢
                        have hw313 : WD D A s.heap (MW cI cJ M mr (upd (upd (upd (upd mi 22 x_305) 23 x_5) 24 1) 25 x_306) mf mg) H locs := hw312
                        obtain ⟨hp_314, hp_315⟩ := hp
                        have hp_314 : (x_305).toInt < (mi 21).toInt → r_311 = (mf 20) (x_305).toNatClampNeg := hp_314
                        rcases hp_315 with ⟨ha_316, ha_317⟩ | ⟨ha_318, ha_319, ha_320⟩
                        · skip
                          have ha_316 : (mi 21).toInt ≤ x_305.toInt := ha_316
                          have ha_317 : r_311.toInt = (-1) := ha_317
                          refine cm_i (pc := 180) hw313 (rn_M (As := [.int r_311]) (rest := []) E hw313 (s_isDigitT l D cI cJ _ M mr (upd (upd (upd (upd mi 22 x_305) 23 x_5) 24 1) 25 x_306) mf mg r_311) (gdV q_1682 q_1684 q_56 q_162 q_1685) hdV_X12_isDigit ⟨rfl, rfl⟩ ⟨(Nat.le_of_ble_eq_true rfl), (Nat.le_of_ble_eq_true rfl)⟩ ⟨(Nat.le_of_ble_eq_true rfl), (Nat.le_of_ble_eq_true rfl)⟩ 12 rfl rfl rfl rfl hl309.1 rfl (Nat.le_of_ble_eq_true rfl) dX12_reads_180) (fun r_322 u_321 H1 locs hp hw323 => ?_)
                          generalize H1 = H at hw323 ⊢
                          have hw324 : WD D A s.heap (MW cI cJ M mr (upd (upd (upd (upd mi 22 x_305) 23 x_5) 24 1) 25 x_306) mf mg) H locs := hw323
                          have hp_325 := hp
                          rcases hp_325 with ⟨rfl, ha_326, ha_327⟩ | ⟨rfl, ha_328⟩ | ⟨rfl, ha_329⟩
                          · skip
                            have ha_326 : 48 ≤ r_311.toInt := ha_326
                            have ha_327 : r_311.toInt ≤ 57 := ha_327
                            exfalso; omega
                          · skip
                            have ha_328 : r_311.toInt ≤ 47 := ha_328
                            refine lv_if_eq (pc := 183) (tgt := 239) E.1 E.2.1 dX12_reads_183 (by decide) (fun _ => ?_) (fun c_330 => absurd (meqE (a := 0) (b := 0) (by decide +kernel) (by decide +kernel) (by omega)) c_330)
                            have hst_331 : x_305.toInt = rnI dgtB (mf 20) (mi 21).toInt x_5.toInt := rnI_full hi_306_4 (by omega)
                            refine lv_aload_n (pc := 239) E.1 E.2.1 dX12_reads_239 rfl (lv_at hl309 1 rfl) ?_
                            refine x_get (pc := 240) (T := TX12) (N := 70) (ci := 12) (v := .int x_305) E hw324 inX12 0 22 q_1421 rfl rfl (by decide) rfl rfl dX12_reads_240 ?_
                            refine lv_aload_n (pc := 243) E.1 E.2.1 dX12_reads_243 rfl (lv_at hl309 1 rfl) ?_
                            refine x_get (pc := 244) (T := TX12) (N := 70) (ci := 12) (v := .int x_5) E hw324 inX12 0 23 q_1422 rfl rfl (by decide) rfl rfl dX12_reads_244 ?_
                            refine lv_isub (pc := 247) E.1 E.2.1 dX12_reads_247 ?_
                            refine lv_topi (fun v_332 ev_332 => ?_)
                            have hv_332 : v_332.toInt = x_305.toInt - x_5.toInt := by rw [ev_332]; exact subE rfl rfl (by omega)
                            refine lv_iconst (pc := 248) (v := 5) E.1 E.2.1 dX12_reads_248 (by decide +kernel) ?_
                            refine lv_icmp_ge (pc := 249) (tgt := 273) E.1 E.2.1 dX12_reads_249 (by decide) (fun c_333 => ?_) (fun c_333 => ?_)
                            · skip
                              have hc_333 := leE (a := 5) (b := v_332.toInt) (by decide +kernel) rfl c_333
                              exact em_v (w1 := (fun (u : Int32 × Int32 × Int32 × Int32) => (MW cI cJ M mr (upd (upd (upd (upd mi 22 u.1) 23 u.2.1) 24 u.2.2.1) 25 u.2.2.2) mf mg))) E hr hlk (x_305, x_5, 1, x_306) hw324 ⟨hi_5_0, (by show x_5.toInt ≤ x_305.toInt; have k_0 : (1 : Int32).toInt = 1 := (by decide +kernel); omega), hi_306_1, (by show 0 ≤ (1 : Int32).toInt; have k_0 : (1 : Int32).toInt = 1 := (by decide +kernel); omega), (by show (1 : Int32).toInt ≤ 4; have k_0 : (1 : Int32).toInt = 1 := (by decide +kernel); omega), (by show (1 : Int32).toInt ≤ 4 * x_305.toInt - 4 * x_5.toInt; have k_0 : (1 : Int32).toInt = 1 := (by decide +kernel); omega), hi_5_2, (show AGN ((1 : Int32).toInt) x_306.toInt x_5.toInt x_305.toInt from (AGN_tk (TKR_num hst_65 (hp_72 (by omega)) (by omega) (by omega) (dgt_t (by omega)) rfl hst_331 (Or.inr ⟨by omega, by decide +kernel⟩)))), (show TKR (mf 20) (mi 21).toInt (mi 22).toInt x_5.toInt x_305.toInt (1 : Int32).toInt x_306.toInt from (TKR_num hst_65 (hp_72 (by omega)) (by omega) (by omega) (dgt_t (by omega)) rfl hst_331 (Or.inr ⟨by omega, by decide +kernel⟩)))⟩ (Nat.le_of_ble_eq_true rfl) (Nat.le_of_ble_eq_true rfl) dX12_reads_273
                            · skip
                              have hc_333 := nleE (a := 5) (b := v_332.toInt) (by decide +kernel) rfl c_333
                              refine lv_aload_n (pc := 252) E.1 E.2.1 dX12_reads_252 rfl (lv_at hl309 1 rfl) ?_
                              refine lv_iconst (pc := 253) (v := 3) E.1 E.2.1 dX12_reads_253 (by decide +kernel) ?_
                              refine x_put (pc := 254) (T := TX12) (N := 70) (ci := 12) (ws' := (MW cI cJ M mr (upd (upd (upd (upd mi 22 x_305) 23 x_5) 24 3) 25 x_306) mf mg)) E hw324 inX12 tyX12_ok nmX12 0 24 q_1423 rfl rfl (by decide) rfl rfl rfl rfl (Nat.le_of_ble_eq_true rfl) rfl dX12_reads_254 (fun H locs hw334 => ?_)
                              refine lv_goto (pc := 257) (tgt := 273) E.1 E.2.1 dX12_reads_257 (by decide) ?_
                              exact em_v (w1 := (fun (u : Int32 × Int32 × Int32 × Int32) => (MW cI cJ M mr (upd (upd (upd (upd mi 22 u.1) 23 u.2.1) 24 u.2.2.1) 25 u.2.2.2) mf mg))) E hr hlk (x_305, x_5, 3, x_306) hw334 ⟨hi_5_0, (by show x_5.toInt ≤ x_305.toInt; have k_0 : (3 : Int32).toInt = 3 := (by decide +kernel); omega), hi_306_1, (by show 0 ≤ (3 : Int32).toInt; have k_0 : (3 : Int32).toInt = 3 := (by decide +kernel); omega), (by show (3 : Int32).toInt ≤ 4; have k_0 : (3 : Int32).toInt = 3 := (by decide +kernel); omega), (by show (3 : Int32).toInt ≤ 4 * x_305.toInt - 4 * x_5.toInt; have k_0 : (3 : Int32).toInt = 3 := (by decide +kernel); omega), hi_5_2, (show AGN ((3 : Int32).toInt) x_306.toInt x_5.toInt x_305.toInt from (AGN_tk (TKR_num hst_65 (hp_72 (by omega)) (by omega) (by omega) (dgt_t (by omega)) rfl hst_331 (Or.inl ⟨by omega, by decide +kernel, (hi_306_5 (by omega)).1⟩)))), (show TKR (mf 20) (mi 21).toInt (mi 22).toInt x_5.toInt x_305.toInt (3 : Int32).toInt x_306.toInt from (TKR_num hst_65 (hp_72 (by omega)) (by omega) (by omega) (dgt_t (by omega)) rfl hst_331 (Or.inl ⟨by omega, by decide +kernel, (hi_306_5 (by omega)).1⟩)))⟩ (Nat.le_of_ble_eq_true rfl) (Nat.le_of_ble_eq_true rfl) dX12_reads_273
                          · skip
                            have ha_329 : 58 ≤ r_311.toInt := ha_329
                            exfalso; omega
                        · skip
                          have ha_318 : x_305.toInt ≤ (mi 21).toInt - 1 := ha_318
                          have ha_319 : 0 ≤ r_311.toInt := ha_319
                          have ha_320 : r_311.toInt ≤ 255 := ha_320
                          refine cm_i (pc := 180) hw313 (rn_M (As := [.int r_311]) (rest := []) E hw313 (s_isDigitT l D cI cJ _ M mr (upd (upd (upd (upd mi 22 x_305) 23 x_5) 24 1) 25 x_306) mf mg r_311) (gdV q_1682 q_1684 q_56 q_162 q_1685) hdV_X12_isDigit ⟨rfl, rfl⟩ ⟨(Nat.le_of_ble_eq_true rfl), (Nat.le_of_ble_eq_true rfl)⟩ ⟨(Nat.le_of_ble_eq_true rfl), (Nat.le_of_ble_eq_true rfl)⟩ 12 rfl rfl rfl rfl hl309.1 rfl (Nat.le_of_ble_eq_true rfl) dX12_reads_180) (fun r_336 u_335 H1 locs hp hw337 => ?_)
                          generalize H1 = H at hw337 ⊢
                          have hw338 : WD D A s.heap (MW cI cJ M mr (upd (upd (upd (upd mi 22 x_305) 23 x_5) 24 1) 25 x_306) mf mg) H locs := hw337
                          have hp_339 := hp
                          rcases hp_339 with ⟨rfl, ha_340, ha_341⟩ | ⟨rfl, ha_342⟩ | ⟨rfl, ha_343⟩
                          · skip
                            have ha_340 : 48 ≤ r_311.toInt := ha_340
                            have ha_341 : r_311.toInt ≤ 57 := ha_341
                            refine lv_if_eq (pc := 183) (tgt := 239) E.1 E.2.1 dX12_reads_183 (by decide) (fun c_344 => absurd c_344 (mneE (a := 1) (b := 0) (by decide +kernel) (by decide +kernel) (by omega))) (fun _ => ?_)
                            refine lv_aload_n (pc := 186) E.1 E.2.1 dX12_reads_186 rfl (lv_at hl309 1 rfl) ?_
                            refine lv_aload_n (pc := 187) E.1 E.2.1 dX12_reads_187 rfl (lv_at hl309 1 rfl) ?_
                            refine x_get (pc := 188) (T := TX12) (N := 70) (ci := 12) (v := .int x_306) E hw338 inX12 0 25 q_1424 rfl rfl (by decide) rfl rfl dX12_reads_188 ?_
                            refine lv_sipush (pc := 191) (v := 10000) E.1 E.2.1 dX12_reads_191 (by decide +kernel) ?_
                            refine lv_icmp_ge (pc := 194) (tgt := 219) E.1 E.2.1 dX12_reads_194 (by decide) (fun c_345 => ?_) (fun c_345 => ?_)
                            · skip
                              have hc_345 := leE (a := 10000) (b := x_306.toInt) (by decide +kernel) rfl c_345
                              refine lv_aload_n (pc := 219) E.1 E.2.1 dX12_reads_219 rfl (lv_at hl309 1 rfl) ?_
                              refine x_get (pc := 220) (T := TX12) (N := 70) (ci := 12) (v := .int x_306) E hw338 inX12 0 25 q_1424 rfl rfl (by decide) rfl rfl dX12_reads_220 ?_
                              refine x_put (pc := 223) (T := TX12) (N := 70) (ci := 12) (ws' := (MW cI cJ M mr (upd (upd (upd (upd mi 22 x_305) 23 x_5) 24 1) 25 x_306) mf mg)) E hw338 inX12 tyX12_ok nmX12 0 25 q_1424 rfl rfl (by decide) rfl rfl rfl rfl (Nat.le_of_ble_eq_true rfl) rfl dX12_reads_223 (fun H locs hw346 => ?_)
                              refine lv_aload_n (pc := 226) E.1 E.2.1 dX12_reads_226 rfl (lv_at hl309 1 rfl) ?_
                              refine lv_aload_n (pc := 227) E.1 E.2.1 dX12_reads_227 rfl (lv_at hl309 1 rfl) ?_
                              refine x_get (pc := 228) (T := TX12) (N := 70) (ci := 12) (v := .int x_305) E hw346 inX12 0 22 q_1421 rfl rfl (by decide) rfl rfl dX12_reads_228 ?_
                              refine lv_iconst (pc := 231) (v := 1) E.1 E.2.1 dX12_reads_231 (by decide +kernel) ?_
                              refine lv_iadd (pc := 232) E.1 E.2.1 dX12_reads_232 ?_
                              refine lv_topi (fun v_347 ev_347 => ?_)
                              have hv_347 : v_347.toInt = x_305.toInt + 1 := by rw [ev_347]; exact addE rfl (by decide +kernel) (by omega)
                              refine x_put (pc := 233) (T := TX12) (N := 70) (ci := 12) (ws' := (MW cI cJ M mr (upd (upd (upd (upd mi 22 v_347) 23 x_5) 24 1) 25 x_306) mf mg)) E hw346 inX12 tyX12_ok nmX12 0 22 q_1421 rfl rfl (by decide) rfl rfl rfl rfl (Nat.le_of_ble_eq_true rfl) rfl dX12_reads_233 (fun H locs hw348 => ?_)
                              refine lv_goto (pc := 236) (tgt := 171) E.1 E.2.1 dX12_reads_236 (by decide) ?_
                              exact ih_307 v_347 x_306 _ _ _ ⟨(by show x_5.toInt + 1 ≤ v_347.toInt; omega), (by show v_347.toInt ≤ (mi 21).toInt; omega), hi_306_2, hi_306_3, (rnI_step hi_306_4 (hp_314 (by omega)) (by omega) (by omega) (dgt_t (by omega)) (m := v_347.toInt) (by omega)), (DVI_far hi_306_5 (by omega) (by omega) (by omega))⟩ (by omega) hw348 (lv_sub hl309 [0, 1] rfl)
                            · skip
                              have hc_345 := nleE (a := 10000) (b := x_306.toInt) (by decide +kernel) rfl c_345
                              refine lv_bipush (pc := 197) (v := 10) E.1 E.2.1 dX12_reads_197 (by decide +kernel) ?_
                              refine lv_aload_n (pc := 199) E.1 E.2.1 dX12_reads_199 rfl (lv_at hl309 1 rfl) ?_
                              refine x_get (pc := 200) (T := TX12) (N := 70) (ci := 12) (v := .int x_306) E hw338 inX12 0 25 q_1424 rfl rfl (by decide) rfl rfl dX12_reads_200 ?_
                              refine lv_imul (pc := 203) E.1 E.2.1 dX12_reads_203 ?_
                              refine lv_topi (fun v_349 ev_349 => ?_)
                              have hv_349 : v_349.toInt = 10 * x_306.toInt := by rw [ev_349]; exact mulE (by decide +kernel) rfl (by omega)
                              refine lv_aload_n (pc := 204) E.1 E.2.1 dX12_reads_204 rfl (lv_at hl309 1 rfl) ?_
                              refine lv_aload_n (pc := 205) E.1 E.2.1 dX12_reads_205 rfl (lv_at hl309 1 rfl) ?_
                              refine x_get (pc := 206) (T := TX12) (N := 70) (ci := 12) (v := .int x_305) E hw338 inX12 0 22 q_1421 rfl rfl (by decide) rfl rfl dX12_reads_206 ?_
                              refine cm_i (pc := 209) hw338 (rn_M (As := [.int x_305]) (rest := [.int v_349, .ref M]) E hw338 (s_rawT l D cI cJ _ M mr (upd (upd (upd (upd mi 22 x_305) 23 x_5) 24 1) 25 x_306) mf mg x_305 (by show 0 ≤ x_305.toInt; omega) (by show 0 ≤ (mi 21).toInt ∧ (mi 21).toInt ≤ 400; omega) a_tape) (gdV q_1670 q_1672 q_53 q_162 q_1673) hdV_X12_raw ⟨rfl, rfl⟩ ⟨(Nat.le_of_ble_eq_true rfl), (Nat.le_of_ble_eq_true rfl)⟩ ⟨(Nat.le_of_ble_eq_true rfl), (Nat.le_of_ble_eq_true rfl)⟩ 12 rfl rfl rfl rfl hl309.1 rfl (Nat.le_of_ble_eq_true rfl) dX12_reads_209) (fun r_351 u_350 H1 locs hp hw352 => ?_)
                              generalize H1 = H at hw352 ⊢
                              have hw353 : WD D A s.heap (MW cI cJ M mr (upd (upd (upd (upd mi 22 x_305) 23 x_5) 24 1) 25 x_306) mf mg) H locs := hw352
                              obtain ⟨hp_354, hp_355⟩ := hp
                              have hp_354 : (x_305).toInt < (mi 21).toInt → r_351 = (mf 20) (x_305).toNatClampNeg := hp_354
                              rcases hp_355 with ⟨ha_356, ha_357⟩ | ⟨ha_358, ha_359, ha_360⟩
                              · skip
                                have ha_356 : (mi 21).toInt ≤ x_305.toInt := ha_356
                                have ha_357 : r_351.toInt = (-1) := ha_357
                                exfalso; omega
                              · skip
                                have ha_358 : x_305.toInt ≤ (mi 21).toInt - 1 := ha_358
                                have ha_359 : 0 ≤ r_351.toInt := ha_359
                                have ha_360 : r_351.toInt ≤ 255 := ha_360
                                have hrrr_351 : r_351.toInt = r_311.toInt := by rw [(hp_354 (by omega)), (hp_314 (by omega))]
                                refine lv_iadd (pc := 212) E.1 E.2.1 dX12_reads_212 ?_
                                refine lv_topi (fun v_361 ev_361 => ?_)
                                have hv_361 : v_361.toInt = v_349.toInt + r_351.toInt := by rw [ev_361]; exact addE rfl rfl (by omega)
                                refine lv_bipush (pc := 213) (v := 48) E.1 E.2.1 dX12_reads_213 (by decide +kernel) ?_
                                refine lv_isub (pc := 215) E.1 E.2.1 dX12_reads_215 ?_
                                refine lv_topi (fun v_362 ev_362 => ?_)
                                have hv_362 : v_362.toInt = v_361.toInt - 48 := by rw [ev_362]; exact subE rfl (by decide +kernel) (by omega)
                                refine lv_goto (pc := 216) (tgt := 223) E.1 E.2.1 dX12_reads_216 (by decide) ?_
                                refine x_put (pc := 223) (T := TX12) (N := 70) (ci := 12) (ws' := (MW cI cJ M mr (upd (upd (upd (upd mi 22 x_305) 23 x_5) 24 1) 25 v_362) mf mg)) E hw353 inX12 tyX12_ok nmX12 0 25 q_1424 rfl rfl (by decide) rfl rfl rfl rfl (Nat.le_of_ble_eq_true rfl) rfl dX12_reads_223 (fun H locs hw363 => ?_)
                                refine lv_aload_n (pc := 226) E.1 E.2.1 dX12_reads_226 rfl (lv_at hl309 1 rfl) ?_
                                refine lv_aload_n (pc := 227) E.1 E.2.1 dX12_reads_227 rfl (lv_at hl309 1 rfl) ?_
                                refine x_get (pc := 228) (T := TX12) (N := 70) (ci := 12) (v := .int x_305) E hw363 inX12 0 22 q_1421 rfl rfl (by decide) rfl rfl dX12_reads_228 ?_
                                refine lv_iconst (pc := 231) (v := 1) E.1 E.2.1 dX12_reads_231 (by decide +kernel) ?_
                                refine lv_iadd (pc := 232) E.1 E.2.1 dX12_reads_232 ?_
                                refine lv_topi (fun v_364 ev_364 => ?_)
                                have hv_364 : v_364.toInt = x_305.toInt + 1 := by rw [ev_364]; exact addE rfl (by decide +kernel) (by omega)
                                refine x_put (pc := 233) (T := TX12) (N := 70) (ci := 12) (ws' := (MW cI cJ M mr (upd (upd (upd (upd mi 22 v_364) 23 x_5) 24 1) 25 v_362) mf mg)) E hw363 inX12 tyX12_ok nmX12 0 22 q_1421 rfl rfl (by decide) rfl rfl rfl rfl (Nat.le_of_ble_eq_true rfl) rfl dX12_reads_233 (fun H locs hw365 => ?_)
                                refine lv_goto (pc := 236) (tgt := 171) E.1 E.2.1 dX12_reads_236 (by decide) ?_
                                exact ih_307 v_364 v_362 _ _ _ ⟨(by show x_5.toInt + 1 ≤ v_364.toInt; omega), (by show v_364.toInt ≤ (mi 21).toInt; omega), (by show 0 ≤ v_362.toInt; omega), (by show v_362.toInt ≤ 99999; omega), (rnI_step hi_306_4 (hp_314 (by omega)) (by omega) (by omega) (dgt_t (by omega)) (m := v_364.toInt) (by omega)), (DVI_step hi_306_5 (hp_354 (by omega)) (by omega) rfl (by omega) (by omega) (by omega) (by omega))⟩ (by omega) hw365 (lv_sub hl309 [0, 1] rfl)
                          · skip
                            have ha_342 : r_311.toInt ≤ 47 := ha_342
                            refine lv_if_eq (pc := 183) (tgt := 239) E.1 E.2.1 dX12_reads_183 (by decide) (fun _ => ?_) (fun c_366 => absurd (meqE (a := 0) (b := 0) (by decide +kernel) (by decide +kernel) (by omega)) c_366)
                            have hst_367 : x_305.toInt = rnI dgtB (mf 20) (mi 21).toInt x_5.toInt := rnI_stop hi_306_4 (hp_314 (by omega)) (by omega) (by omega) (dgt_f (by omega))
                            refine lv_aload_n (pc := 239) E.1 E.2.1 dX12_reads_239 rfl (lv_at hl309 1 rfl) ?_
                            refine x_get (pc := 240) (T := TX12) (N := 70) (ci := 12) (v := .int x_305) E hw338 inX12 0 22 q_1421 rfl rfl (by decide) rfl rfl dX12_reads_240 ?_
                            refine lv_aload_n (pc := 243) E.1 E.2.1 dX12_reads_243 rfl (lv_at hl309 1 rfl) ?_
                            refine x_get (pc := 244) (T := TX12) (N := 70) (ci := 12) (v := .int x_5) E hw338 inX12 0 23 q_1422 rfl rfl (by decide) rfl rfl dX12_reads_244 ?_
                            refine lv_isub (pc := 247) E.1 E.2.1 dX12_reads_247 ?_
                            refine lv_topi (fun v_368 ev_368 => ?_)
                            have hv_368 : v_368.toInt = x_305.toInt - x_5.toInt := by rw [ev_368]; exact subE rfl rfl (by omega)
                            refine lv_iconst (pc := 248) (v := 5) E.1 E.2.1 dX12_reads_248 (by decide +kernel) ?_
                            refine lv_icmp_ge (pc := 249) (tgt := 273) E.1 E.2.1 dX12_reads_249 (by decide) (fun c_369 => ?_) (fun c_369 => ?_)
                            · skip
                              have hc_369 := leE (a := 5) (b := v_368.toInt) (by decide +kernel) rfl c_369
                              exact em_v (w1 := (fun (u : Int32 × Int32 × Int32 × Int32) => (MW cI cJ M mr (upd (upd (upd (upd mi 22 u.1) 23 u.2.1) 24 u.2.2.1) 25 u.2.2.2) mf mg))) E hr hlk (x_305, x_5, 1, x_306) hw338 ⟨hi_5_0, (by show x_5.toInt ≤ x_305.toInt; have k_0 : (1 : Int32).toInt = 1 := (by decide +kernel); omega), hi_306_1, (by show 0 ≤ (1 : Int32).toInt; have k_0 : (1 : Int32).toInt = 1 := (by decide +kernel); omega), (by show (1 : Int32).toInt ≤ 4; have k_0 : (1 : Int32).toInt = 1 := (by decide +kernel); omega), (by show (1 : Int32).toInt ≤ 4 * x_305.toInt - 4 * x_5.toInt; have k_0 : (1 : Int32).toInt = 1 := (by decide +kernel); omega), hi_5_2, (show AGN ((1 : Int32).toInt) x_306.toInt x_5.toInt x_305.toInt from (AGN_tk (TKR_num hst_65 (hp_72 (by omega)) (by omega) (by omega) (dgt_t (by omega)) rfl hst_367 (Or.inr ⟨by omega, by decide +kernel⟩)))), (show TKR (mf 20) (mi 21).toInt (mi 22).toInt x_5.toInt x_305.toInt (1 : Int32).toInt x_306.toInt from (TKR_num hst_65 (hp_72 (by omega)) (by omega) (by omega) (dgt_t (by omega)) rfl hst_367 (Or.inr ⟨by omega, by decide +kernel⟩)))⟩ (Nat.le_of_ble_eq_true rfl) (Nat.le_of_ble_eq_true rfl) dX12_reads_273
                            · skip
                              have hc_369 := nleE (a := 5) (b := v_368.toInt) (by decide +kernel) rfl c_369
                              refine lv_aload_n (pc := 252) E.1 E.2.1 dX12_reads_252 rfl (lv_at hl309 1 rfl) ?_
                              refine lv_iconst (pc := 253) (v := 3) E.1 E.2.1 dX12_reads_253 (by decide +kernel) ?_
                              refine x_put (pc := 254) (T := TX12) (N := 70) (ci := 12) (ws' := (MW cI cJ M mr (upd (upd (upd (upd mi 22 x_305) 23 x_5) 24 3) 25 x_306) mf mg)) E hw338 inX12 tyX12_ok nmX12 0 24 q_1423 rfl rfl (by decide) rfl rfl rfl rfl (Nat.le_of_ble_eq_true rfl) rfl dX12_reads_254 (fun H locs hw370 => ?_)
                              refine lv_goto (pc := 257) (tgt := 273) E.1 E.2.1 dX12_reads_257 (by decide) ?_
                              exact em_v (w1 := (fun (u : Int32 × Int32 × Int32 × Int32) => (MW cI cJ M mr (upd (upd (upd (upd mi 22 u.1) 23 u.2.1) 24 u.2.2.1) 25 u.2.2.2) mf mg))) E hr hlk (x_305, x_5, 3, x_306) hw370 ⟨hi_5_0, (by show x_5.toInt ≤ x_305.toInt; have k_0 : (3 : Int32).toInt = 3 := (by decide +kernel); omega), hi_306_1, (by show 0 ≤ (3 : Int32).toInt; have k_0 : (3 : Int32).toInt = 3 := (by decide +kernel); omega), (by show (3 : Int32).toInt ≤ 4; have k_0 : (3 : Int32).toInt = 3 := (by decide +kernel); omega), (by show (3 : Int32).toInt ≤ 4 * x_305.toInt - 4 * x_5.toInt; have k_0 : (3 : Int32).toInt = 3 := (by decide +kernel); omega), hi_5_2, (show AGN ((3 : Int32).toInt) x_306.toInt x_5.toInt x_305.toInt from (AGN_tk (TKR_num hst_65 (hp_72 (by omega)) (by omega) (by omega) (dgt_t (by omega)) rfl hst_367 (Or.inl ⟨by omega, by decide +kernel, (hi_306_5 (by omega)).1⟩)))), (show TKR (mf 20) (mi 21).toInt (mi 22).toInt x_5.toInt x_305.toInt (3 : Int32).toInt x_306.toInt from (TKR_num hst_65 (hp_72 (by omega)) (by omega) (by omega) (dgt_t (by omega)) rfl hst_367 (Or.inl ⟨by omega, by decide +kernel, (hi_306_5 (by omega)).1⟩)))⟩ (Nat.le_of_ble_eq_true rfl) (Nat.le_of_ble_eq_true rfl) dX12_reads_273
                          · skip
                            have ha_343 : 58 ≤ r_311.toInt := ha_343
                            refine lv_if_eq (pc := 183) (tgt := 239) E.1 E.2.1 dX12_reads_183 (by decide) (fun _ => ?_) (fun c_371 => absurd (meqE (a := 0) (b := 0) (by decide +kernel) (by decide +kernel) (by omega)) c_371)
                            have hst_372 : x_305.toInt = rnI dgtB (mf 20) (mi 21).toInt x_5.toInt := rnI_stop hi_306_4 (hp_314 (by omega)) (by omega) (by omega) (dgt_f (by omega))
                            refine lv_aload_n (pc := 239) E.1 E.2.1 dX12_reads_239 rfl (lv_at hl309 1 rfl) ?_
                            refine x_get (pc := 240) (T := TX12) (N := 70) (ci := 12) (v := .int x_305) E hw338 inX12 0 22 q_1421 rfl rfl (by decide) rfl rfl dX12_reads_240 ?_
                            refine lv_aload_n (pc := 243) E.1 E.2.1 dX12_reads_243 rfl (lv_at hl309 1 rfl) ?_
                            refine x_get (pc := 244) (T := TX12) (N := 70) (ci := 12) (v := .int x_5) E hw338 inX12 0 23 q_1422 rfl rfl (by decide) rfl rfl dX12_reads_244 ?_
                            refine lv_isub (pc := 247) E.1 E.2.1 dX12_reads_247 ?_
                            refine lv_topi (fun v_373 ev_373 => ?_)
                            have hv_373 : v_373.toInt = x_305.toInt - x_5.toInt := by rw [ev_373]; exact subE rfl rfl (by omega)
                            refine lv_iconst (pc := 248) (v := 5) E.1 E.2.1 dX12_reads_248 (by decide +kernel) ?_
                            refine lv_icmp_ge (pc := 249) (tgt := 273) E.1 E.2.1 dX12_reads_249 (by decide) (fun c_374 => ?_) (fun c_374 => ?_)
                            · skip
                              have hc_374 := leE (a := 5) (b := v_373.toInt) (by decide +kernel) rfl c_374
                              exact em_v (w1 := (fun (u : Int32 × Int32 × Int32 × Int32) => (MW cI cJ M mr (upd (upd (upd (upd mi 22 u.1) 23 u.2.1) 24 u.2.2.1) 25 u.2.2.2) mf mg))) E hr hlk (x_305, x_5, 1, x_306) hw338 ⟨hi_5_0, (by show x_5.toInt ≤ x_305.toInt; have k_0 : (1 : Int32).toInt = 1 := (by decide +kernel); omega), hi_306_1, (by show 0 ≤ (1 : Int32).toInt; have k_0 : (1 : Int32).toInt = 1 := (by decide +kernel); omega), (by show (1 : Int32).toInt ≤ 4; have k_0 : (1 : Int32).toInt = 1 := (by decide +kernel); omega), (by show (1 : Int32).toInt ≤ 4 * x_305.toInt - 4 * x_5.toInt; have k_0 : (1 : Int32).toInt = 1 := (by decide +kernel); omega), hi_5_2, (show AGN ((1 : Int32).toInt) x_306.toInt x_5.toInt x_305.toInt from (AGN_tk (TKR_num hst_65 (hp_72 (by omega)) (by omega) (by omega) (dgt_t (by omega)) rfl hst_372 (Or.inr ⟨by omega, by decide +kernel⟩)))), (show TKR (mf 20) (mi 21).toInt (mi 22).toInt x_5.toInt x_305.toInt (1 : Int32).toInt x_306.toInt from (TKR_num hst_65 (hp_72 (by omega)) (by omega) (by omega) (dgt_t (by omega)) rfl hst_372 (Or.inr ⟨by omega, by decide +kernel⟩)))⟩ (Nat.le_of_ble_eq_true rfl) (Nat.le_of_ble_eq_true rfl) dX12_reads_273
                            · skip
                              have hc_374 := nleE (a := 5) (b := v_373.toInt) (by decide +kernel) rfl c_374
                              refine lv_aload_n (pc := 252) E.1 E.2.1 dX12_reads_252 rfl (lv_at hl309 1 rfl) ?_
                              refine lv_iconst (pc := 253) (v := 3) E.1 E.2.1 dX12_reads_253 (by decide +kernel) ?_
                              refine x_put (pc := 254) (T := TX12) (N := 70) (ci := 12) (ws' := (MW cI cJ M mr (upd (upd (upd (upd mi 22 x_305) 23 x_5) 24 3) 25 x_306) mf mg)) E hw338 inX12 tyX12_ok nmX12 0 24 q_1423 rfl rfl (by decide) rfl rfl rfl rfl (Nat.le_of_ble_eq_true rfl) rfl dX12_reads_254 (fun H locs hw375 => ?_)
                              refine lv_goto (pc := 257) (tgt := 273) E.1 E.2.1 dX12_reads_257 (by decide) ?_
                              exact em_v (w1 := (fun (u : Int32 × Int32 × Int32 × Int32) => (MW cI cJ M mr (upd (upd (upd (upd mi 22 u.1) 23 u.2.1) 24 u.2.2.1) 25 u.2.2.2) mf mg))) E hr hlk (x_305, x_5, 3, x_306) hw375 ⟨hi_5_0, (by show x_5.toInt ≤ x_305.toInt; have k_0 : (3 : Int32).toInt = 3 := (by decide +kernel); omega), hi_306_1, (by show 0 ≤ (3 : Int32).toInt; have k_0 : (3 : Int32).toInt = 3 := (by decide +kernel); omega), (by show (3 : Int32).toInt ≤ 4; have k_0 : (3 : Int32).toInt = 3 := (by decide +kernel); omega), (by show (3 : Int32).toInt ≤ 4 * x_305.toInt - 4 * x_5.toInt; have k_0 : (3 : Int32).toInt = 3 := (by decide +kernel); omega), hi_5_2, (show AGN ((3 : Int32).toInt) x_306.toInt x_5.toInt x_305.toInt from (AGN_tk (TKR_num hst_65 (hp_72 (by omega)) (by omega) (by omega) (dgt_t (by omega)) rfl hst_372 (Or.inl ⟨by omega, by decide +kernel, (hi_306_5 (by omega)).1⟩)))), (show TKR (mf 20) (mi 21).toInt (mi 22).toInt x_5.toInt x_305.toInt (3 : Int32).toInt x_306.toInt from (TKR_num hst_65 (hp_72 (by omega)) (by omega) (by omega) (dgt_t (by omega)) rfl hst_372 (Or.inl ⟨by omega, by decide +kernel, (hi_306_5 (by omega)).1⟩)))⟩ (Nat.le_of_ble_eq_true rfl) (Nat.le_of_ble_eq_true rfl) dX12_reads_273
                    exact loop_304 (Int.toNat ((mi 21).toInt - v_81.toInt) + 1) v_81 v_302 _ _ _ ⟨(by show x_5.toInt + 1 ≤ v_81.toInt; omega), (by show v_81.toInt ≤ (mi 21).toInt; omega), (by show 0 ≤ v_302.toInt; omega), (by show v_302.toInt ≤ 99999; omega), (rnI_step (i := x_5) rfl (hp_72 (by omega)) (by omega) (by omega) (dgt_t (by omega)) (m := v_81.toInt) (by omega)), (DVI_one (hp_72 (by omega)) (by omega) (by omega) (by omega) (by omega) (by omega))⟩ (by omega) hw303 (lv_sub hl79 [0, 1] rfl)
                  · skip
                    have ha_299 : r_69.toInt ≤ 47 := ha_299
                    refine lv_if_eq (pc := 160) (tgt := 260) E.1 E.2.1 dX12_reads_160 (by decide) (fun _ => ?_) (fun c_376 => absurd (meqE (a := 0) (b := 0) (by decide +kernel) (by decide +kernel) (by omega)) c_376)
                    refine lv_aload_n (pc := 260) E.1 E.2.1 dX12_reads_260 rfl (lv_at hl79 1 rfl) ?_
                    refine lv_iload_n (pc := 261) E.1 E.2.1 dX12_reads_261 rfl (lv_at hl79 0 rfl) ?_
                    refine cm_i (pc := 262) hw295 (rn_M (As := [.int r_69]) (rest := []) E hw295 (s_isMarkSignT l D cI cJ _ M mr (upd (upd (upd (upd mi 22 v_81) 23 x_5) 24 1) 25 r_69) mf mg r_69) (gdV q_1686 q_1688 q_57 q_162 q_1689) hdV_X12_isMarkSign ⟨rfl, rfl⟩ ⟨(Nat.le_of_ble_eq_true rfl), (Nat.le_of_ble_eq_true rfl)⟩ ⟨(Nat.le_of_ble_eq_true rfl), (Nat.le_of_ble_eq_true rfl)⟩ 12 rfl rfl rfl rfl hl79.1 rfl (Nat.le_of_ble_eq_true rfl) dX12_reads_262) (fun r_378 u_377 H1 locs hp hw379 => ?_)
                    generalize H1 = H at hw379 ⊢
                    have hw380 : WD D A s.heap (MW cI cJ M mr (upd (upd (upd (upd mi 22 v_81) 23 x_5) 24 1) 25 r_69) mf mg) H locs := hw379
                    obtain ⟨hp_381, hp_382⟩ := hp
                    have hp_381 : 0 ≤ r_378.toInt ∧ r_378.toInt ≤ 1 := hp_381
                    have hp_382 : ((r_378 : Int32) = 1 ↔ sgnB (r_69).toInt = true) := hp_382
                    refine lv_if_eq (pc := 265) (tgt := 273) E.1 E.2.1 dX12_reads_265 (by decide) (fun c_383 => ?_) (fun c_383 => ?_)
                    · skip
                      have hc_383 := eqE (a := r_378.toInt) (b := 0) rfl (by decide +kernel) c_383
                      exact em_v (w1 := (fun (u : Int32 × Int32 × Int32 × Int32) => (MW cI cJ M mr (upd (upd (upd (upd mi 22 u.1) 23 u.2.1) 24 u.2.2.1) 25 u.2.2.2) mf mg))) E hr hlk (v_81, x_5, 1, r_69) hw380 ⟨hi_5_0, (by show x_5.toInt ≤ v_81.toInt; have k_0 : (1 : Int32).toInt = 1 := (by decide +kernel); omega), (by show v_81.toInt ≤ (mi 21).toInt; have k_0 : (1 : Int32).toInt = 1 := (by decide +kernel); omega), (by show 0 ≤ (1 : Int32).toInt; have k_0 : (1 : Int32).toInt = 1 := (by decide +kernel); omega), (by show (1 : Int32).toInt ≤ 4; have k_0 : (1 : Int32).toInt = 1 := (by decide +kernel); omega), (by show (1 : Int32).toInt ≤ 4 * v_81.toInt - 4 * x_5.toInt; have k_0 : (1 : Int32).toInt = 1 := (by decide +kernel); omega), hi_5_2, (show AGN ((1 : Int32).toInt) r_69.toInt x_5.toInt v_81.toInt from (AGN_tk (TKR_sgn hst_65 (hp_72 (by omega)) (by omega) (by omega) (ltr_f (by omega)) (dgt_f (by omega)) rfl (by omega) (Or.inr ⟨Bool.eq_false_iff.mpr (fun q => absurd (congrArg Int32.toInt (hp_382.mpr q)) (by have k1 : (1 : Int32).toInt = 1 := (by decide +kernel); omega)), by decide +kernel⟩)))), (show TKR (mf 20) (mi 21).toInt (mi 22).toInt x_5.toInt v_81.toInt (1 : Int32).toInt r_69.toInt from (TKR_sgn hst_65 (hp_72 (by omega)) (by omega) (by omega) (ltr_f (by omega)) (dgt_f (by omega)) rfl (by omega) (Or.inr ⟨Bool.eq_false_iff.mpr (fun q => absurd (congrArg Int32.toInt (hp_382.mpr q)) (by have k1 : (1 : Int32).toInt = 1 := (by decide +kernel); omega)), by decide +kernel⟩)))⟩ (Nat.le_of_ble_eq_true rfl) (Nat.le_of_ble_eq_true rfl) dX12_reads_273
                    · skip
                      have hc_383 := neE (a := r_378.toInt) (b := 0) rfl (by decide +kernel) c_383
                      refine lv_aload_n (pc := 268) E.1 E.2.1 dX12_reads_268 rfl (lv_at hl79 1 rfl) ?_
                      refine lv_iconst (pc := 269) (v := 4) E.1 E.2.1 dX12_reads_269 (by decide +kernel) ?_
                      refine x_put (pc := 270) (T := TX12) (N := 70) (ci := 12) (ws' := (MW cI cJ M mr (upd (upd (upd (upd mi 22 v_81) 23 x_5) 24 4) 25 r_69) mf mg)) E hw380 inX12 tyX12_ok nmX12 0 24 q_1423 rfl rfl (by decide) rfl rfl rfl rfl (Nat.le_of_ble_eq_true rfl) rfl dX12_reads_270 (fun H locs hw384 => ?_)
                      exact em_v (w1 := (fun (u : Int32 × Int32 × Int32 × Int32) => (MW cI cJ M mr (upd (upd (upd (upd mi 22 u.1) 23 u.2.1) 24 u.2.2.1) 25 u.2.2.2) mf mg))) E hr hlk (v_81, x_5, 4, r_69) hw384 ⟨hi_5_0, (by show x_5.toInt ≤ v_81.toInt; have k_0 : (4 : Int32).toInt = 4 := (by decide +kernel); omega), (by show v_81.toInt ≤ (mi 21).toInt; have k_0 : (4 : Int32).toInt = 4 := (by decide +kernel); omega), (by show 0 ≤ (4 : Int32).toInt; have k_0 : (4 : Int32).toInt = 4 := (by decide +kernel); omega), (by show (4 : Int32).toInt ≤ 4; have k_0 : (4 : Int32).toInt = 4 := (by decide +kernel); omega), (by show (4 : Int32).toInt ≤ 4 * v_81.toInt - 4 * x_5.toInt; have k_0 : (4 : Int32).toInt = 4 := (by decide +kernel); omega), hi_5_2, (show AGN ((4 : Int32).toInt) r_69.toInt x_5.toInt v_81.toInt from (AGN_tk (TKR_sgn hst_65 (hp_72 (by omega)) (by omega) (by omega) (ltr_f (by omega)) (dgt_f (by omega)) rfl (by omega) (Or.inl ⟨hp_382.mp (Int32.toInt_inj.mp (by have k1 : (1 : Int32).toInt = 1 := (by decide +kernel); omega)), by decide +kernel, rfl⟩)))), (show TKR (mf 20) (mi 21).toInt (mi 22).toInt x_5.toInt v_81.toInt (4 : Int32).toInt r_69.toInt from (TKR_sgn hst_65 (hp_72 (by omega)) (by omega) (by omega) (ltr_f (by omega)) (dgt_f (by omega)) rfl (by omega) (Or.inl ⟨hp_382.mp (Int32.toInt_inj.mp (by have k1 : (1 : Int32).toInt = 1 := (by decide +kernel); omega)), by decide +kernel, rfl⟩)))⟩ (Nat.le_of_ble_eq_true rfl) (Nat.le_of_ble_eq_true rfl) dX12_reads_273
                  · skip
                    have ha_300 : 58 ≤ r_69.toInt := ha_300
                    refine lv_if_eq (pc := 160) (tgt := 260) E.1 E.2.1 dX12_reads_160 (by decide) (fun _ => ?_) (fun c_385 => absurd (meqE (a := 0) (b := 0) (by decide +kernel) (by decide +kernel) (by omega)) c_385)
                    refine lv_aload_n (pc := 260) E.1 E.2.1 dX12_reads_260 rfl (lv_at hl79 1 rfl) ?_
                    refine lv_iload_n (pc := 261) E.1 E.2.1 dX12_reads_261 rfl (lv_at hl79 0 rfl) ?_
                    refine cm_i (pc := 262) hw295 (rn_M (As := [.int r_69]) (rest := []) E hw295 (s_isMarkSignT l D cI cJ _ M mr (upd (upd (upd (upd mi 22 v_81) 23 x_5) 24 1) 25 r_69) mf mg r_69) (gdV q_1686 q_1688 q_57 q_162 q_1689) hdV_X12_isMarkSign ⟨rfl, rfl⟩ ⟨(Nat.le_of_ble_eq_true rfl), (Nat.le_of_ble_eq_true rfl)⟩ ⟨(Nat.le_of_ble_eq_true rfl), (Nat.le_of_ble_eq_true rfl)⟩ 12 rfl rfl rfl rfl hl79.1 rfl (Nat.le_of_ble_eq_true rfl) dX12_reads_262) (fun r_387 u_386 H1 locs hp hw388 => ?_)
                    generalize H1 = H at hw388 ⊢
                    have hw389 : WD D A s.heap (MW cI cJ M mr (upd (upd (upd (upd mi 22 v_81) 23 x_5) 24 1) 25 r_69) mf mg) H locs := hw388
                    obtain ⟨hp_390, hp_391⟩ := hp
                    have hp_390 : 0 ≤ r_387.toInt ∧ r_387.toInt ≤ 1 := hp_390
                    have hp_391 : ((r_387 : Int32) = 1 ↔ sgnB (r_69).toInt = true) := hp_391
                    refine lv_if_eq (pc := 265) (tgt := 273) E.1 E.2.1 dX12_reads_265 (by decide) (fun c_392 => ?_) (fun c_392 => ?_)
                    · skip
                      have hc_392 := eqE (a := r_387.toInt) (b := 0) rfl (by decide +kernel) c_392
                      exact em_v (w1 := (fun (u : Int32 × Int32 × Int32 × Int32) => (MW cI cJ M mr (upd (upd (upd (upd mi 22 u.1) 23 u.2.1) 24 u.2.2.1) 25 u.2.2.2) mf mg))) E hr hlk (v_81, x_5, 1, r_69) hw389 ⟨hi_5_0, (by show x_5.toInt ≤ v_81.toInt; have k_0 : (1 : Int32).toInt = 1 := (by decide +kernel); omega), (by show v_81.toInt ≤ (mi 21).toInt; have k_0 : (1 : Int32).toInt = 1 := (by decide +kernel); omega), (by show 0 ≤ (1 : Int32).toInt; have k_0 : (1 : Int32).toInt = 1 := (by decide +kernel); omega), (by show (1 : Int32).toInt ≤ 4; have k_0 : (1 : Int32).toInt = 1 := (by decide +kernel); omega), (by show (1 : Int32).toInt ≤ 4 * v_81.toInt - 4 * x_5.toInt; have k_0 : (1 : Int32).toInt = 1 := (by decide +kernel); omega), hi_5_2, (show AGN ((1 : Int32).toInt) r_69.toInt x_5.toInt v_81.toInt from (AGN_tk (TKR_sgn hst_65 (hp_72 (by omega)) (by omega) (by omega) (ltr_f (by omega)) (dgt_f (by omega)) rfl (by omega) (Or.inr ⟨Bool.eq_false_iff.mpr (fun q => absurd (congrArg Int32.toInt (hp_391.mpr q)) (by have k1 : (1 : Int32).toInt = 1 := (by decide +kernel); omega)), by decide +kernel⟩)))), (show TKR (mf 20) (mi 21).toInt (mi 22).toInt x_5.toInt v_81.toInt (1 : Int32).toInt r_69.toInt from (TKR_sgn hst_65 (hp_72 (by omega)) (by omega) (by omega) (ltr_f (by omega)) (dgt_f (by omega)) rfl (by omega) (Or.inr ⟨Bool.eq_false_iff.mpr (fun q => absurd (congrArg Int32.toInt (hp_391.mpr q)) (by have k1 : (1 : Int32).toInt = 1 := (by decide +kernel); omega)), by decide +kernel⟩)))⟩ (Nat.le_of_ble_eq_true rfl) (Nat.le_of_ble_eq_true rfl) dX12_reads_273
                    · skip
                      have hc_392 := neE (a := r_387.toInt) (b := 0) rfl (by decide +kernel) c_392
                      refine lv_aload_n (pc := 268) E.1 E.2.1 dX12_reads_268 rfl (lv_at hl79 1 rfl) ?_
                      refine lv_iconst (pc := 269) (v := 4) E.1 E.2.1 dX12_reads_269 (by decide +kernel) ?_
                      refine x_put (pc := 270) (T := TX12) (N := 70) (ci := 12) (ws' := (MW cI cJ M mr (upd (upd (upd (upd mi 22 v_81) 23 x_5) 24 4) 25 r_69) mf mg)) E hw389 inX12 tyX12_ok nmX12 0 24 q_1423 rfl rfl (by decide) rfl rfl rfl rfl (Nat.le_of_ble_eq_true rfl) rfl dX12_reads_270 (fun H locs hw393 => ?_)
                      exact em_v (w1 := (fun (u : Int32 × Int32 × Int32 × Int32) => (MW cI cJ M mr (upd (upd (upd (upd mi 22 u.1) 23 u.2.1) 24 u.2.2.1) 25 u.2.2.2) mf mg))) E hr hlk (v_81, x_5, 4, r_69) hw393 ⟨hi_5_0, (by show x_5.toInt ≤ v_81.toInt; have k_0 : (4 : Int32).toInt = 4 := (by decide +kernel); omega), (by show v_81.toInt ≤ (mi 21).toInt; have k_0 : (4 : Int32).toInt = 4 := (by decide +kernel); omega), (by show 0 ≤ (4 : Int32).toInt; have k_0 : (4 : Int32).toInt = 4 := (by decide +kernel); omega), (by show (4 : Int32).toInt ≤ 4; have k_0 : (4 : Int32).toInt = 4 := (by decide +kernel); omega), (by show (4 : Int32).toInt ≤ 4 * v_81.toInt - 4 * x_5.toInt; have k_0 : (4 : Int32).toInt = 4 := (by decide +kernel); omega), hi_5_2, (show AGN ((4 : Int32).toInt) r_69.toInt x_5.toInt v_81.toInt from (AGN_tk (TKR_sgn hst_65 (hp_72 (by omega)) (by omega) (by omega) (ltr_f (by omega)) (dgt_f (by omega)) rfl (by omega) (Or.inl ⟨hp_391.mp (Int32.toInt_inj.mp (by have k1 : (1 : Int32).toInt = 1 := (by decide +kernel); omega)), by decide +kernel, rfl⟩)))), (show TKR (mf 20) (mi 21).toInt (mi 22).toInt x_5.toInt v_81.toInt (4 : Int32).toInt r_69.toInt from (TKR_sgn hst_65 (hp_72 (by omega)) (by omega) (by omega) (ltr_f (by omega)) (dgt_f (by omega)) rfl (by omega) (Or.inl ⟨hp_391.mp (Int32.toInt_inj.mp (by have k1 : (1 : Int32).toInt = 1 := (by decide +kernel); omega)), by decide +kernel, rfl⟩)))⟩ (Nat.le_of_ble_eq_true rfl) (Nat.le_of_ble_eq_true rfl) dX12_reads_273
                · skip
                  have ha_94 : 91 ≤ r_69.toInt := ha_94
                  have ha_95 : r_69.toInt ≤ 96 := ha_95
                  refine lv_if_eq (pc := 92) (tgt := 155) E.1 E.2.1 dX12_reads_92 (by decide) (fun _ => ?_) (fun c_394 => absurd (meqE (a := 0) (b := 0) (by decide +kernel) (by decide +kernel) (by omega)) c_394)
                  refine lv_aload_n (pc := 155) E.1 E.2.1 dX12_reads_155 rfl (lv_at hl79 1 rfl) ?_
                  refine lv_iload_n (pc := 156) E.1 E.2.1 dX12_reads_156 rfl (lv_at hl79 0 rfl) ?_
                  refine cm_i (pc := 157) hw87 (rn_M (As := [.int r_69]) (rest := []) E hw87 (s_isDigitT l D cI cJ _ M mr (upd (upd (upd (upd mi 22 v_81) 23 x_5) 24 1) 25 r_69) mf mg r_69) (gdV q_1682 q_1684 q_56 q_162 q_1685) hdV_X12_isDigit ⟨rfl, rfl⟩ ⟨(Nat.le_of_ble_eq_true rfl), (Nat.le_of_ble_eq_true rfl)⟩ ⟨(Nat.le_of_ble_eq_true rfl), (Nat.le_of_ble_eq_true rfl)⟩ 12 rfl rfl rfl rfl hl79.1 rfl (Nat.le_of_ble_eq_true rfl) dX12_reads_157) (fun r_396 u_395 H1 locs hp hw397 => ?_)
                  generalize H1 = H at hw397 ⊢
                  have hw398 : WD D A s.heap (MW cI cJ M mr (upd (upd (upd (upd mi 22 v_81) 23 x_5) 24 1) 25 r_69) mf mg) H locs := hw397
                  have hp_399 := hp
                  rcases hp_399 with ⟨rfl, ha_400, ha_401⟩ | ⟨rfl, ha_402⟩ | ⟨rfl, ha_403⟩
                  · skip
                    have ha_400 : 48 ≤ r_69.toInt := ha_400
                    have ha_401 : r_69.toInt ≤ 57 := ha_401
                    exfalso; omega
                  · skip
                    have ha_402 : r_69.toInt ≤ 47 := ha_402
                    exfalso; omega
                  · skip
                    have ha_403 : 58 ≤ r_69.toInt := ha_403
                    refine lv_if_eq (pc := 160) (tgt := 260) E.1 E.2.1 dX12_reads_160 (by decide) (fun _ => ?_) (fun c_404 => absurd (meqE (a := 0) (b := 0) (by decide +kernel) (by decide +kernel) (by omega)) c_404)
                    refine lv_aload_n (pc := 260) E.1 E.2.1 dX12_reads_260 rfl (lv_at hl79 1 rfl) ?_
                    refine lv_iload_n (pc := 261) E.1 E.2.1 dX12_reads_261 rfl (lv_at hl79 0 rfl) ?_
                    refine cm_i (pc := 262) hw398 (rn_M (As := [.int r_69]) (rest := []) E hw398 (s_isMarkSignT l D cI cJ _ M mr (upd (upd (upd (upd mi 22 v_81) 23 x_5) 24 1) 25 r_69) mf mg r_69) (gdV q_1686 q_1688 q_57 q_162 q_1689) hdV_X12_isMarkSign ⟨rfl, rfl⟩ ⟨(Nat.le_of_ble_eq_true rfl), (Nat.le_of_ble_eq_true rfl)⟩ ⟨(Nat.le_of_ble_eq_true rfl), (Nat.le_of_ble_eq_true rfl)⟩ 12 rfl rfl rfl rfl hl79.1 rfl (Nat.le_of_ble_eq_true rfl) dX12_reads_262) (fun r_406 u_405 H1 locs hp hw407 => ?_)
                    generalize H1 = H at hw407 ⊢
                    have hw408 : WD D A s.heap (MW cI cJ M mr (upd (upd (upd (upd mi 22 v_81) 23 x_5) 24 1) 25 r_69) mf mg) H locs := hw407
                    obtain ⟨hp_409, hp_410⟩ := hp
                    have hp_409 : 0 ≤ r_406.toInt ∧ r_406.toInt ≤ 1 := hp_409
                    have hp_410 : ((r_406 : Int32) = 1 ↔ sgnB (r_69).toInt = true) := hp_410
                    refine lv_if_eq (pc := 265) (tgt := 273) E.1 E.2.1 dX12_reads_265 (by decide) (fun c_411 => ?_) (fun c_411 => ?_)
                    · skip
                      have hc_411 := eqE (a := r_406.toInt) (b := 0) rfl (by decide +kernel) c_411
                      exact em_v (w1 := (fun (u : Int32 × Int32 × Int32 × Int32) => (MW cI cJ M mr (upd (upd (upd (upd mi 22 u.1) 23 u.2.1) 24 u.2.2.1) 25 u.2.2.2) mf mg))) E hr hlk (v_81, x_5, 1, r_69) hw408 ⟨hi_5_0, (by show x_5.toInt ≤ v_81.toInt; have k_0 : (1 : Int32).toInt = 1 := (by decide +kernel); omega), (by show v_81.toInt ≤ (mi 21).toInt; have k_0 : (1 : Int32).toInt = 1 := (by decide +kernel); omega), (by show 0 ≤ (1 : Int32).toInt; have k_0 : (1 : Int32).toInt = 1 := (by decide +kernel); omega), (by show (1 : Int32).toInt ≤ 4; have k_0 : (1 : Int32).toInt = 1 := (by decide +kernel); omega), (by show (1 : Int32).toInt ≤ 4 * v_81.toInt - 4 * x_5.toInt; have k_0 : (1 : Int32).toInt = 1 := (by decide +kernel); omega), hi_5_2, (show AGN ((1 : Int32).toInt) r_69.toInt x_5.toInt v_81.toInt from (AGN_tk (TKR_sgn hst_65 (hp_72 (by omega)) (by omega) (by omega) (ltr_f (by omega)) (dgt_f (by omega)) rfl (by omega) (Or.inr ⟨Bool.eq_false_iff.mpr (fun q => absurd (congrArg Int32.toInt (hp_410.mpr q)) (by have k1 : (1 : Int32).toInt = 1 := (by decide +kernel); omega)), by decide +kernel⟩)))), (show TKR (mf 20) (mi 21).toInt (mi 22).toInt x_5.toInt v_81.toInt (1 : Int32).toInt r_69.toInt from (TKR_sgn hst_65 (hp_72 (by omega)) (by omega) (by omega) (ltr_f (by omega)) (dgt_f (by omega)) rfl (by omega) (Or.inr ⟨Bool.eq_false_iff.mpr (fun q => absurd (congrArg Int32.toInt (hp_410.mpr q)) (by have k1 : (1 : Int32).toInt = 1 := (by decide +kernel); omega)), by decide +kernel⟩)))⟩ (Nat.le_of_ble_eq_true rfl) (Nat.le_of_ble_eq_true rfl) dX12_reads_273
                    · skip
                      have hc_411 := neE (a := r_406.toInt) (b := 0) rfl (by decide +kernel) c_411
                      refine lv_aload_n (pc := 268) E.1 E.2.1 dX12_reads_268 rfl (lv_at hl79 1 rfl) ?_
                      refine lv_iconst (pc := 269) (v := 4) E.1 E.2.1 dX12_reads_269 (by decide +kernel) ?_
                      refine x_put (pc := 270) (T := TX12) (N := 70) (ci := 12) (ws' := (MW cI cJ M mr (upd (upd (upd (upd mi 22 v_81) 23 x_5) 24 4) 25 r_69) mf mg)) E hw408 inX12 tyX12_ok nmX12 0 24 q_1423 rfl rfl (by decide) rfl rfl rfl rfl (Nat.le_of_ble_eq_true rfl) rfl dX12_reads_270 (fun H locs hw412 => ?_)
                      exact em_v (w1 := (fun (u : Int32 × Int32 × Int32 × Int32) => (MW cI cJ M mr (upd (upd (upd (upd mi 22 u.1) 23 u.2.1) 24 u.2.2.1) 25 u.2.2.2) mf mg))) E hr hlk (v_81, x_5, 4, r_69) hw412 ⟨hi_5_0, (by show x_5.toInt ≤ v_81.toInt; have k_0 : (4 : Int32).toInt = 4 := (by decide +kernel); omega), (by show v_81.toInt ≤ (mi 21).toInt; have k_0 : (4 : Int32).toInt = 4 := (by decide +kernel); omega), (by show 0 ≤ (4 : Int32).toInt; have k_0 : (4 : Int32).toInt = 4 := (by decide +kernel); omega), (by show (4 : Int32).toInt ≤ 4; have k_0 : (4 : Int32).toInt = 4 := (by decide +kernel); omega), (by show (4 : Int32).toInt ≤ 4 * v_81.toInt - 4 * x_5.toInt; have k_0 : (4 : Int32).toInt = 4 := (by decide +kernel); omega), hi_5_2, (show AGN ((4 : Int32).toInt) r_69.toInt x_5.toInt v_81.toInt from (AGN_tk (TKR_sgn hst_65 (hp_72 (by omega)) (by omega) (by omega) (ltr_f (by omega)) (dgt_f (by omega)) rfl (by omega) (Or.inl ⟨hp_410.mp (Int32.toInt_inj.mp (by have k1 : (1 : Int32).toInt = 1 := (by decide +kernel); omega)), by decide +kernel, rfl⟩)))), (show TKR (mf 20) (mi 21).toInt (mi 22).toInt x_5.toInt v_81.toInt (4 : Int32).toInt r_69.toInt from (TKR_sgn hst_65 (hp_72 (by omega)) (by omega) (by omega) (ltr_f (by omega)) (dgt_f (by omega)) rfl (by omega) (Or.inl ⟨hp_410.mp (Int32.toInt_inj.mp (by have k1 : (1 : Int32).toInt = 1 := (by decide +kernel); omega)), by decide +kernel, rfl⟩)))⟩ (Nat.le_of_ble_eq_true rfl) (Nat.le_of_ble_eq_true rfl) dX12_reads_273
                · skip
                  have ha_96 : 123 ≤ r_69.toInt := ha_96
                  refine lv_if_eq (pc := 92) (tgt := 155) E.1 E.2.1 dX12_reads_92 (by decide) (fun _ => ?_) (fun c_413 => absurd (meqE (a := 0) (b := 0) (by decide +kernel) (by decide +kernel) (by omega)) c_413)
                  refine lv_aload_n (pc := 155) E.1 E.2.1 dX12_reads_155 rfl (lv_at hl79 1 rfl) ?_
                  refine lv_iload_n (pc := 156) E.1 E.2.1 dX12_reads_156 rfl (lv_at hl79 0 rfl) ?_
                  refine cm_i (pc := 157) hw87 (rn_M (As := [.int r_69]) (rest := []) E hw87 (s_isDigitT l D cI cJ _ M mr (upd (upd (upd (upd mi 22 v_81) 23 x_5) 24 1) 25 r_69) mf mg r_69) (gdV q_1682 q_1684 q_56 q_162 q_1685) hdV_X12_isDigit ⟨rfl, rfl⟩ ⟨(Nat.le_of_ble_eq_true rfl), (Nat.le_of_ble_eq_true rfl)⟩ ⟨(Nat.le_of_ble_eq_true rfl), (Nat.le_of_ble_eq_true rfl)⟩ 12 rfl rfl rfl rfl hl79.1 rfl (Nat.le_of_ble_eq_true rfl) dX12_reads_157) (fun r_415 u_414 H1 locs hp hw416 => ?_)
                  generalize H1 = H at hw416 ⊢
                  have hw417 : WD D A s.heap (MW cI cJ M mr (upd (upd (upd (upd mi 22 v_81) 23 x_5) 24 1) 25 r_69) mf mg) H locs := hw416
                  have hp_418 := hp
                  rcases hp_418 with ⟨rfl, ha_419, ha_420⟩ | ⟨rfl, ha_421⟩ | ⟨rfl, ha_422⟩
                  · skip
                    have ha_419 : 48 ≤ r_69.toInt := ha_419
                    have ha_420 : r_69.toInt ≤ 57 := ha_420
                    exfalso; omega
                  · skip
                    have ha_421 : r_69.toInt ≤ 47 := ha_421
                    exfalso; omega
                  · skip
                    have ha_422 : 58 ≤ r_69.toInt := ha_422
                    refine lv_if_eq (pc := 160) (tgt := 260) E.1 E.2.1 dX12_reads_160 (by decide) (fun _ => ?_) (fun c_423 => absurd (meqE (a := 0) (b := 0) (by decide +kernel) (by decide +kernel) (by omega)) c_423)
                    refine lv_aload_n (pc := 260) E.1 E.2.1 dX12_reads_260 rfl (lv_at hl79 1 rfl) ?_
                    refine lv_iload_n (pc := 261) E.1 E.2.1 dX12_reads_261 rfl (lv_at hl79 0 rfl) ?_
                    refine cm_i (pc := 262) hw417 (rn_M (As := [.int r_69]) (rest := []) E hw417 (s_isMarkSignT l D cI cJ _ M mr (upd (upd (upd (upd mi 22 v_81) 23 x_5) 24 1) 25 r_69) mf mg r_69) (gdV q_1686 q_1688 q_57 q_162 q_1689) hdV_X12_isMarkSign ⟨rfl, rfl⟩ ⟨(Nat.le_of_ble_eq_true rfl), (Nat.le_of_ble_eq_true rfl)⟩ ⟨(Nat.le_of_ble_eq_true rfl), (Nat.le_of_ble_eq_true rfl)⟩ 12 rfl rfl rfl rfl hl79.1 rfl (Nat.le_of_ble_eq_true rfl) dX12_reads_262) (fun r_425 u_424 H1 locs hp hw426 => ?_)
                    generalize H1 = H at hw426 ⊢
                    have hw427 : WD D A s.heap (MW cI cJ M mr (upd (upd (upd (upd mi 22 v_81) 23 x_5) 24 1) 25 r_69) mf mg) H locs := hw426
                    obtain ⟨hp_428, hp_429⟩ := hp
                    have hp_428 : 0 ≤ r_425.toInt ∧ r_425.toInt ≤ 1 := hp_428
                    have hp_429 : ((r_425 : Int32) = 1 ↔ sgnB (r_69).toInt = true) := hp_429
                    refine lv_if_eq (pc := 265) (tgt := 273) E.1 E.2.1 dX12_reads_265 (by decide) (fun c_430 => ?_) (fun c_430 => ?_)
                    · skip
                      have hc_430 := eqE (a := r_425.toInt) (b := 0) rfl (by decide +kernel) c_430
                      exact em_v (w1 := (fun (u : Int32 × Int32 × Int32 × Int32) => (MW cI cJ M mr (upd (upd (upd (upd mi 22 u.1) 23 u.2.1) 24 u.2.2.1) 25 u.2.2.2) mf mg))) E hr hlk (v_81, x_5, 1, r_69) hw427 ⟨hi_5_0, (by show x_5.toInt ≤ v_81.toInt; have k_0 : (1 : Int32).toInt = 1 := (by decide +kernel); omega), (by show v_81.toInt ≤ (mi 21).toInt; have k_0 : (1 : Int32).toInt = 1 := (by decide +kernel); omega), (by show 0 ≤ (1 : Int32).toInt; have k_0 : (1 : Int32).toInt = 1 := (by decide +kernel); omega), (by show (1 : Int32).toInt ≤ 4; have k_0 : (1 : Int32).toInt = 1 := (by decide +kernel); omega), (by show (1 : Int32).toInt ≤ 4 * v_81.toInt - 4 * x_5.toInt; have k_0 : (1 : Int32).toInt = 1 := (by decide +kernel); omega), hi_5_2, (show AGN ((1 : Int32).toInt) r_69.toInt x_5.toInt v_81.toInt from (AGN_tk (TKR_sgn hst_65 (hp_72 (by omega)) (by omega) (by omega) (ltr_f (by omega)) (dgt_f (by omega)) rfl (by omega) (Or.inr ⟨Bool.eq_false_iff.mpr (fun q => absurd (congrArg Int32.toInt (hp_429.mpr q)) (by have k1 : (1 : Int32).toInt = 1 := (by decide +kernel); omega)), by decide +kernel⟩)))), (show TKR (mf 20) (mi 21).toInt (mi 22).toInt x_5.toInt v_81.toInt (1 : Int32).toInt r_69.toInt from (TKR_sgn hst_65 (hp_72 (by omega)) (by omega) (by omega) (ltr_f (by omega)) (dgt_f (by omega)) rfl (by omega) (Or.inr ⟨Bool.eq_false_iff.mpr (fun q => absurd (congrArg Int32.toInt (hp_429.mpr q)) (by have k1 : (1 : Int32).toInt = 1 := (by decide +kernel); omega)), by decide +kernel⟩)))⟩ (Nat.le_of_ble_eq_true rfl) (Nat.le_of_ble_eq_true rfl) dX12_reads_273
                    · skip
                      have hc_430 := neE (a := r_425.toInt) (b := 0) rfl (by decide +kernel) c_430
                      refine lv_aload_n (pc := 268) E.1 E.2.1 dX12_reads_268 rfl (lv_at hl79 1 rfl) ?_
                      refine lv_iconst (pc := 269) (v := 4) E.1 E.2.1 dX12_reads_269 (by decide +kernel) ?_
                      refine x_put (pc := 270) (T := TX12) (N := 70) (ci := 12) (ws' := (MW cI cJ M mr (upd (upd (upd (upd mi 22 v_81) 23 x_5) 24 4) 25 r_69) mf mg)) E hw427 inX12 tyX12_ok nmX12 0 24 q_1423 rfl rfl (by decide) rfl rfl rfl rfl (Nat.le_of_ble_eq_true rfl) rfl dX12_reads_270 (fun H locs hw431 => ?_)
                      exact em_v (w1 := (fun (u : Int32 × Int32 × Int32 × Int32) => (MW cI cJ M mr (upd (upd (upd (upd mi 22 u.1) 23 u.2.1) 24 u.2.2.1) 25 u.2.2.2) mf mg))) E hr hlk (v_81, x_5, 4, r_69) hw431 ⟨hi_5_0, (by show x_5.toInt ≤ v_81.toInt; have k_0 : (4 : Int32).toInt = 4 := (by decide +kernel); omega), (by show v_81.toInt ≤ (mi 21).toInt; have k_0 : (4 : Int32).toInt = 4 := (by decide +kernel); omega), (by show 0 ≤ (4 : Int32).toInt; have k_0 : (4 : Int32).toInt = 4 := (by decide +kernel); omega), (by show (4 : Int32).toInt ≤ 4; have k_0 : (4 : Int32).toInt = 4 := (by decide +kernel); omega), (by show (4 : Int32).toInt ≤ 4 * v_81.toInt - 4 * x_5.toInt; have k_0 : (4 : Int32).toInt = 4 := (by decide +kernel); omega), hi_5_2, (show AGN ((4 : Int32).toInt) r_69.toInt x_5.toInt v_81.toInt from (AGN_tk (TKR_sgn hst_65 (hp_72 (by omega)) (by omega) (by omega) (ltr_f (by omega)) (dgt_f (by omega)) rfl (by omega) (Or.inl ⟨hp_429.mp (Int32.toInt_inj.mp (by have k1 : (1 : Int32).toInt = 1 := (by decide +kernel); omega)), by decide +kernel, rfl⟩)))), (show TKR (mf 20) (mi 21).toInt (mi 22).toInt x_5.toInt v_81.toInt (4 : Int32).toInt r_69.toInt from (TKR_sgn hst_65 (hp_72 (by omega)) (by omega) (by omega) (ltr_f (by omega)) (dgt_f (by omega)) rfl (by omega) (Or.inl ⟨hp_429.mp (Int32.toInt_inj.mp (by have k1 : (1 : Int32).toInt = 1 := (by decide +kernel); omega)), by decide +kernel, rfl⟩)))⟩ (Nat.le_of_ble_eq_true rfl) (Nat.le_of_ble_eq_true rfl) dX12_reads_273
            · skip
              have hc_64 := eqE (a := r_54.toInt) (b := 10) rfl (by decide +kernel) c_64
              refine lv_aload_n (pc := 26) E.1 E.2.1 dX12_reads_26 rfl (lv_at hl8 0 rfl) ?_
              refine lv_aload_n (pc := 27) E.1 E.2.1 dX12_reads_27 rfl (lv_at hl8 0 rfl) ?_
              refine x_get (pc := 28) (T := TX12) (N := 70) (ci := 12) (v := .int x_5) E hw56 inX12 0 22 q_1421 rfl rfl (by decide) rfl rfl dX12_reads_28 ?_
              refine lv_iconst (pc := 31) (v := 1) E.1 E.2.1 dX12_reads_31 (by decide +kernel) ?_
              refine lv_iadd (pc := 32) E.1 E.2.1 dX12_reads_32 ?_
              refine lv_topi (fun v_432 ev_432 => ?_)
              have hv_432 : v_432.toInt = x_5.toInt + 1 := by rw [ev_432]; exact addE rfl (by decide +kernel) (by omega)
              refine x_put (pc := 33) (T := TX12) (N := 70) (ci := 12) (ws' := (MW cI cJ M mr (upd mi 22 v_432) mf mg)) E hw56 inX12 tyX12_ok nmX12 0 22 q_1421 rfl rfl (by decide) rfl rfl rfl rfl (Nat.le_of_ble_eq_true rfl) rfl dX12_reads_33 (fun H locs hw433 => ?_)
              refine lv_goto (pc := 36) (tgt := 0) E.1 E.2.1 dX12_reads_36 (by decide) ?_
              exact ih_6 v_432 _ _ _ ⟨(by show 0 ≤ v_432.toInt; omega), (by show v_432.toInt ≤ (mi 21).toInt; omega), (by show (mi 22).toInt ≤ v_432.toInt; omega), (rnI_step hi_5_3 (hp_57 (by omega)) (by omega) (by omega) (spc_t (by omega)) (m := v_432.toInt) (by omega))⟩ (by omega) hw433 (lv_sub hl8 [0] rfl)
  exact loop_4 (Int.toNat ((mi 21).toInt - (mi 22).toInt) + 1) (mi 22) _ _ _ ⟨h0, h1, (by show (mi 22).toInt ≤ (mi 22).toInt; omega), rfl⟩ (by omega) hw1 (lv_sub hl3 [0] rfl)
