set_option maxHeartbeats 4000000 in
set_option maxRecDepth 100000 in
theorem t_follow1 (l : Launch) (D : va_G) (cI cJ : ClassId) (sz : Nat) (mr : Nat → Nat) (mi : Nat → Int32) (mf : Nat → Nat → Int32) (mg : Nat → Nat → Int64) (z_n : Int32) (h0 : 0 ≤ (mi 33).toInt ∧ (mi 33).toInt ≤ 10) (h1 : 0 ≤ (mi 42).toInt ∧ (mi 42).toInt ≤ 40) (h2 : 0 ≤ (mi 51).toInt ∧ (mi 51).toInt ≤ 10) (h3 : 0 ≤ (mi 81).toInt ∧ (mi 81).toInt ≤ 8) (h4 : 1 ≤ z_n.toInt ∧ z_n.toInt ≤ 10) (a_p_from : p9 (mf 38)) (a_p_to : p9 (mf 39)) : Met l yX9_follow (Cond.code yX9_follow cX9_follow 7 (some .long) :: GW) ({ frames := 6, cells := 0, slots := 0, locals := 162 } : Room) (va_Pc [.ref (mr 0), .ref (mr 4), .int z_n] (PW D cI cJ sz (WZ_TV1 cI cJ mr mi mf mg) xT)) (va_Ql (fun (r : Int64) (u : (Nat → Int32) × (Nat → Int64) × (Nat → Int64) × (Nat → Int32) × (Nat → Int32)) => True) (fun u => QW D cI cJ (va_A (WZ_TV1 cI cJ mr mi mf mg) sz) ((fun (u : (Nat → Int32) × (Nat → Int64) × (Nat → Int64) × (Nat → Int32) × (Nat → Int32)) => (WZ_TV1 cI cJ mr mi (va_up (va_up (va_up mf 3 u.1) 43 u.2.2.2.1) 44 u.2.2.2.2) (va_up (va_up mg 1 u.2.1) 2 u.2.2.1))) u)) (va_A (WZ_TV1 cI cJ mr mi mf mg) sz)) 0 0 (va_A (WZ_TV1 cI cJ mr mi mf mg) sz) := by
  refine mk_met (y := yX9_follow) (bytes := cX9_follow) (maxL := 7) (avs := [.ref (mr 0), .ref (mr 4), .int z_n]) (WS := (WZ_TV1 cI cJ mr mi mf mg)) (Qf := fun A => va_Ql (fun (r : Int64) (u : (Nat → Int32) × (Nat → Int64) × (Nat → Int64) × (Nat → Int32) × (Nat → Int32)) => True) (fun u => QW D cI cJ A ((fun (u : (Nat → Int32) × (Nat → Int64) × (Nat → Int64) × (Nat → Int32) × (Nat → Int32)) => (WZ_TV1 cI cJ mr mi (va_up (va_up (va_up mf 3 u.1) 43 u.2.2.2.1) 44 u.2.2.2.2) (va_up (va_up mg 1 u.2.1) 2 u.2.2.1))) u)) A) (by decide) (Nat.le_of_ble_eq_true rfl) ?_
  intro p e s m below meth c A ls E hr hlk hnm hX hw1 hl2
  have hl3 : lv_has ls 7 [(0, .ref (mr 0)), (1, .ref (mr 4)), (2, .int z_n)] := hl2
  refine lv_aload_n (pc := 0) E.1 E.2.1 dX9_follow_0 rfl (lv_at hl3 1 rfl) ?_
  refine x_get (pc := 1) (T := TX10) (N := 17) (ci := 10) (v := .ref (mr 27)) E hw1 inX10 4 1 q_461 rfl rfl (by decide) rfl rfl dX9_follow_1 ?_
  refine x_get (pc := 4) (T := TX1) (N := 9) (ci := 1) (v := .int (mi 33)) E hw1 inX1 16 5 q_279 rfl rfl (by decide) rfl rfl dX9_follow_4 ?_
  refine lv_istore_n (pc := 7) (lv' := [(3, .int (mi 33)), (0, .ref (mr 0)), (1, .ref (mr 4)), (2, .int z_n)]) E.1 E.2.1 dX9_follow_7 rfl hl3 (by decide) rfl (fun ls hl4 => ?_)
  refine lv_iconst (pc := 8) (v := 0) E.1 E.2.1 dX9_follow_8 (by decide +kernel) ?_
  refine lv_istore (pc := 9) (lv' := [(4, .int 0), (3, .int (mi 33)), (0, .ref (mr 0)), (1, .ref (mr 4)), (2, .int z_n)]) E.1 E.2.1 dX9_follow_9 hl4 (by decide) rfl (fun ls hl5 => ?_)
  have loop_6 : ∀ (k : Nat) (x_7 : Int32) (g_8 : Nat → Int32) (g_9 : Nat → Int32) (g_10 : Nat → Int32) (H : Heap) (locs : List Loc) (ls : Array Slot), (0 ≤ x_7.toInt) ∧ (x_7.toInt ≤ (mi 33).toInt) → (mi 33).toInt - x_7.toInt < (k : Int) → WD D A s.heap (WZ_TV1 cI cJ mr mi (va_up (va_up (va_up mf 3 g_8) 43 g_9) 44 g_10) mg) H locs → lv_has ls 7 [(4, .int x_7), (3, .int (mi 33)), (0, .ref (mr 0)), (1, .ref (mr 4)), (2, .int z_n)] → W p l e ({ frames := 6, cells := 0, slots := 0, locals := 162 } : Room) s m ([.ref (mr 0), .ref (mr 4), .int z_n] : List Value).toArray below meth c H locs 0 0 (MQ below (va_Ql (fun (r : Int64) (u : (Nat → Int32) × (Nat → Int64) × (Nat → Int64) × (Nat → Int32) × (Nat → Int32)) => True) (fun u => QW D cI cJ A ((fun (u : (Nat → Int32) × (Nat → Int64) × (Nat → Int64) × (Nat → Int32) × (Nat → Int32)) => (WZ_TV1 cI cJ mr mi (va_up (va_up (va_up mf 3 u.1) 43 u.2.2.2.1) 44 u.2.2.2.2) (va_up (va_up mg 1 u.2.1) 2 u.2.2.1))) u)) A) ([.ref (mr 0), .ref (mr 4), .int z_n] : List Value).toArray s 0 0 A) (F0 m 11 ls []) := by
    intro k
    induction k with
    | zero =>
      intro x_7 g_8 g_9 g_10 _ _ _ hinv hm
      obtain ⟨hi_10_0, hi_10_1⟩ := hinv
      exact absurd hm (by omega)
    | succ k ih_11 =>
      intro x_7 g_8 g_9 g_10 H locs ls hinv hm hw12 hl13
      obtain ⟨hi_10_0, hi_10_1⟩ := hinv
      refine lv_iload (pc := 11) E.1 E.2.1 dX9_follow_11 (lv_at hl13 0 rfl) ?_
      refine lv_iload_n (pc := 13) E.1 E.2.1 dX9_follow_13 rfl (lv_at hl13 1 rfl) ?_
      refine lv_icmp_ge (pc := 14) (tgt := 36) E.1 E.2.1 dX9_follow_14 (by decide) (fun c_14 => ?_) (fun c_14 => ?_)
      · skip
        have hc_14 := leE (a := (mi 33).toInt) (b := x_7.toInt) rfl rfl c_14
        refine lv_iconst (pc := 36) (v := 0) E.1 E.2.1 dX9_follow_36 (by decide +kernel) ?_
        refine lv_istore (pc := 37) (lv' := [(4, .int 0), (3, .int (mi 33)), (0, .ref (mr 0)), (1, .ref (mr 4)), (2, .int z_n)]) E.1 E.2.1 dX9_follow_37 hl13 (by decide) rfl (fun ls hl15 => ?_)
        have loop_16 : ∀ (k : Nat) (x_17 : Int32) (g_18 : Nat → Int64) (H : Heap) (locs : List Loc) (ls : Array Slot), (0 ≤ x_17.toInt) ∧ (x_17.toInt ≤ z_n.toInt) → z_n.toInt - x_17.toInt < (k : Int) → WD D A s.heap (WZ_TV1 cI cJ mr mi (va_up (va_up (va_up mf 3 g_8) 43 g_9) 44 g_10) (va_up mg 1 g_18)) H locs → lv_has ls 7 [(4, .int x_17), (3, .int (mi 33)), (0, .ref (mr 0)), (1, .ref (mr 4)), (2, .int z_n)] → W p l e ({ frames := 6, cells := 0, slots := 0, locals := 162 } : Room) s m ([.ref (mr 0), .ref (mr 4), .int z_n] : List Value).toArray below meth c H locs 0 0 (MQ below (va_Ql (fun (r : Int64) (u : (Nat → Int32) × (Nat → Int64) × (Nat → Int64) × (Nat → Int32) × (Nat → Int32)) => True) (fun u => QW D cI cJ A ((fun (u : (Nat → Int32) × (Nat → Int64) × (Nat → Int64) × (Nat → Int32) × (Nat → Int32)) => (WZ_TV1 cI cJ mr mi (va_up (va_up (va_up mf 3 u.1) 43 u.2.2.2.1) 44 u.2.2.2.2) (va_up (va_up mg 1 u.2.1) 2 u.2.2.1))) u)) A) ([.ref (mr 0), .ref (mr 4), .int z_n] : List Value).toArray s 0 0 A) (F0 m 39 ls []) := by
          intro k
          induction k with
          | zero =>
            intro x_17 g_18 _ _ _ hinv hm
            obtain ⟨hi_18_0, hi_18_1⟩ := hinv
            exact absurd hm (by omega)
          | succ k ih_19 =>
            intro x_17 g_18 H locs ls hinv hm hw20 hl21
            obtain ⟨hi_18_0, hi_18_1⟩ := hinv
            refine lv_iload (pc := 39) E.1 E.2.1 dX9_follow_39 (lv_at hl21 0 rfl) ?_
            refine lv_iload_n (pc := 41) E.1 E.2.1 dX9_follow_41 rfl (lv_at hl21 4 rfl) ?_
            refine lv_icmp_ge (pc := 42) (tgt := 86) E.1 E.2.1 dX9_follow_42 (by decide) (fun c_22 => ?_) (fun c_22 => ?_)
            · skip
              have hc_22 := leE (a := z_n.toInt) (b := x_17.toInt) rfl rfl c_22
              refine lv_iload_n (pc := 86) E.1 E.2.1 dX9_follow_86 rfl (lv_at hl21 4 rfl) ?_
              refine lv_iconst (pc := 87) (v := 1) E.1 E.2.1 dX9_follow_87 (by decide +kernel) ?_
              refine lv_isub (pc := 88) E.1 E.2.1 dX9_follow_88 ?_
              refine lv_topi (fun v_23 ev_23 => ?_)
              have hv_23 : v_23.toInt = z_n.toInt - 1 := by rw [ev_23]; exact subE rfl (by decide +kernel) (by omega)
              refine lv_istore (pc := 89) (lv' := [(4, .int v_23), (3, .int (mi 33)), (0, .ref (mr 0)), (1, .ref (mr 4)), (2, .int z_n)]) E.1 E.2.1 dX9_follow_89 hl21 (by decide) rfl (fun ls hl24 => ?_)
              have loop_25 : ∀ (k : Nat) (x_26 : Int32) (g_27 : Nat → Int64) (H : Heap) (locs : List Loc) (ls : Array Slot), ((-1) ≤ x_26.toInt) ∧ (x_26.toInt + 1 ≤ z_n.toInt) → x_26.toInt + 1 < (k : Int) → WD D A s.heap (WZ_TV1 cI cJ mr mi (va_up (va_up (va_up mf 3 g_8) 43 g_9) 44 g_10) (va_up (va_up mg 1 g_18) 2 g_27)) H locs → lv_has ls 7 [(4, .int x_26), (3, .int (mi 33)), (0, .ref (mr 0)), (1, .ref (mr 4)), (2, .int z_n)] → W p l e ({ frames := 6, cells := 0, slots := 0, locals := 162 } : Room) s m ([.ref (mr 0), .ref (mr 4), .int z_n] : List Value).toArray below meth c H locs 0 0 (MQ below (va_Ql (fun (r : Int64) (u : (Nat → Int32) × (Nat → Int64) × (Nat → Int64) × (Nat → Int32) × (Nat → Int32)) => True) (fun u => QW D cI cJ A ((fun (u : (Nat → Int32) × (Nat → Int64) × (Nat → Int64) × (Nat → Int32) × (Nat → Int32)) => (WZ_TV1 cI cJ mr mi (va_up (va_up (va_up mf 3 u.1) 43 u.2.2.2.1) 44 u.2.2.2.2) (va_up (va_up mg 1 u.2.1) 2 u.2.2.1))) u)) A) ([.ref (mr 0), .ref (mr 4), .int z_n] : List Value).toArray s 0 0 A) (F0 m 91 ls []) := by
                intro k
                induction k with
                | zero =>
                  intro x_26 g_27 _ _ _ hinv hm
                  obtain ⟨hi_27_0, hi_27_1⟩ := hinv
                  exact absurd hm (by omega)
                | succ k ih_28 =>
                  intro x_26 g_27 H locs ls hinv hm hw29 hl30
                  obtain ⟨hi_27_0, hi_27_1⟩ := hinv
                  refine lv_iload (pc := 91) E.1 E.2.1 dX9_follow_91 (lv_at hl30 0 rfl) ?_
                  refine lv_if_lt (pc := 93) (tgt := 149) E.1 E.2.1 dX9_follow_93 (by decide) (fun c_31 => ?_) (fun c_31 => ?_)
                  · skip
                    have hc_31 := ltE (a := x_26.toInt) (b := 0) rfl (by decide +kernel) c_31
                    refine lv_lconst (pc := 149) (v := 0) E.1 E.2.1 dX9_follow_149 (by decide +kernel) ?_
                    refine lv_lstore (pc := 150) (lv' := [(4, .long 0), (3, .int (mi 33)), (0, .ref (mr 0)), (1, .ref (mr 4)), (2, .int z_n)]) E.1 E.2.1 dX9_follow_150 hl30 (by decide) rfl (fun ls hl32 => ?_)
                    refine lv_iconst (pc := 152) (v := 0) E.1 E.2.1 dX9_follow_152 (by decide +kernel) ?_
                    refine lv_istore (pc := 153) (lv' := [(6, .int 0), (4, .long 0), (3, .int (mi 33)), (0, .ref (mr 0)), (1, .ref (mr 4)), (2, .int z_n)]) E.1 E.2.1 dX9_follow_153 hl32 (by decide) rfl (fun ls hl33 => ?_)
                    have loop_34 : ∀ (k : Nat) (x_35 : Int32) (w_36 : Int64) (H : Heap) (locs : List Loc) (ls : Array Slot), (0 ≤ x_35.toInt) ∧ (x_35.toInt ≤ (mi 33).toInt) → (mi 33).toInt - x_35.toInt < (k : Int) → WD D A s.heap (WZ_TV1 cI cJ mr mi (va_up (va_up (va_up mf 3 g_8) 43 g_9) 44 g_10) (va_up (va_up mg 1 g_18) 2 g_27)) H locs → lv_has ls 7 [(6, .int x_35), (4, .long w_36), (3, .int (mi 33)), (0, .ref (mr 0)), (1, .ref (mr 4)), (2, .int z_n)] → W p l e ({ frames := 6, cells := 0, slots := 0, locals := 162 } : Room) s m ([.ref (mr 0), .ref (mr 4), .int z_n] : List Value).toArray below meth c H locs 0 0 (MQ below (va_Ql (fun (r : Int64) (u : (Nat → Int32) × (Nat → Int64) × (Nat → Int64) × (Nat → Int32) × (Nat → Int32)) => True) (fun u => QW D cI cJ A ((fun (u : (Nat → Int32) × (Nat → Int64) × (Nat → Int64) × (Nat → Int32) × (Nat → Int32)) => (WZ_TV1 cI cJ mr mi (va_up (va_up (va_up mf 3 u.1) 43 u.2.2.2.1) 44 u.2.2.2.2) (va_up (va_up mg 1 u.2.1) 2 u.2.2.1))) u)) A) ([.ref (mr 0), .ref (mr 4), .int z_n] : List Value).toArray s 0 0 A) (F0 m 155 ls []) := by
                      intro k
                      induction k with
                      | zero =>
                        intro x_35 w_36 _ _ _ hinv hm
                        obtain ⟨hi_36_0, hi_36_1⟩ := hinv
                        exact absurd hm (by omega)
                      | succ k ih_37 =>
                        intro x_35 w_36 H locs ls hinv hm hw38 hl39
                        obtain ⟨hi_36_0, hi_36_1⟩ := hinv
                        refine lv_iload (pc := 155) E.1 E.2.1 dX9_follow_155 (lv_at hl39 0 rfl) ?_
                        refine lv_iload_n (pc := 157) E.1 E.2.1 dX9_follow_157 rfl (lv_at hl39 2 rfl) ?_
                        refine lv_icmp_ge (pc := 158) (tgt := 179) E.1 E.2.1 dX9_follow_158 (by decide) (fun c_40 => ?_) (fun c_40 => ?_)
                        · skip
                          have hc_40 := leE (a := (mi 33).toInt) (b := x_35.toInt) rfl rfl c_40
                          refine lv_lload (pc := 179) E.1 E.2.1 dX9_follow_179 (lv_at hl39 1 rfl) ?_
                          exact em_l (w1 := (fun (u : (Nat → Int32) × (Nat → Int64) × (Nat → Int64) × (Nat → Int32) × (Nat → Int32)) => (WZ_TV1 cI cJ mr mi (va_up (va_up (va_up mf 3 u.1) 43 u.2.2.2.1) 44 u.2.2.2.2) (va_up (va_up mg 1 u.2.1) 2 u.2.2.1)))) E hr hlk (g_8, g_18, g_27, g_9, g_10) hw38 trivial (Nat.le_of_ble_eq_true rfl) (Nat.le_of_ble_eq_true rfl) dX9_follow_181
                        · skip
                          have hc_40 := nleE (a := (mi 33).toInt) (b := x_35.toInt) rfl rfl c_40
                          refine lv_lload (pc := 161) E.1 E.2.1 dX9_follow_161 (lv_at hl39 1 rfl) ?_
                          refine lv_aload_n (pc := 163) E.1 E.2.1 dX9_follow_163 rfl (lv_at hl39 3 rfl) ?_
                          refine x_get (pc := 164) (T := TX9) (N := 3) (ci := 9) (v := .ref (mr 2)) E hw38 inX9 0 1 q_595 rfl rfl (by decide) rfl rfl dX9_follow_164 ?_
                          refine lv_iload (pc := 167) E.1 E.2.1 dX9_follow_167 (lv_at hl39 0 rfl) ?_
                          refine x_lald (pc := 169) (f := g_27) E hw38 2 rfl (inbE (a := x_35.toInt) rfl (by omega)) dX9_follow_169 (fun w_41 => ?_)
                          refine lv_ladd (pc := 170) E.1 E.2.1 dX9_follow_170 ?_
                          refine lv_topl (fun w_42 ew_42 => ?_)
                          refine lv_lstore (pc := 171) (lv' := [(4, .long w_42), (6, .int x_35), (3, .int (mi 33)), (0, .ref (mr 0)), (1, .ref (mr 4)), (2, .int z_n)]) E.1 E.2.1 dX9_follow_171 hl39 (by decide) rfl (fun ls hl43 => ?_)
                          obtain ⟨v_44, ev_44⟩ : ∃ z : Int32, x_35 + Int32.ofInt (1) = z := ⟨_, rfl⟩
                          have hv_44 : v_44.toInt = x_35.toInt + (1) := by rw [← ev_44]; exact incE rfl (by decide) (by omega)
                          refine lv_iinc (pc := 173) (v := v_44) (lv' := [(6, .int v_44), (4, .long w_42), (3, .int (mi 33)), (0, .ref (mr 0)), (1, .ref (mr 4)), (2, .int z_n)]) E.1 E.2.1 dX9_follow_173 hl43 (k := 1) rfl ev_44 (by decide) rfl (fun ls hl45 => ?_)
                          refine lv_goto (pc := 176) (tgt := 155) E.1 E.2.1 dX9_follow_176 (by decide) ?_
                          exact ih_37 v_44 w_42 _ _ _ ⟨(by show 0 ≤ v_44.toInt; omega), (by show v_44.toInt ≤ (mi 33).toInt; omega)⟩ (by omega) hw38 (lv_sub hl45 [0, 1, 2, 3, 4, 5] rfl)
                    exact loop_34 (Int.toNat ((mi 33).toInt - 0) + 1) 0 0 _ _ _ ⟨(by show 0 ≤ (0 : Int32).toInt; have k_0 : (0 : Int32).toInt = 0 := (by decide +kernel); omega), (by show (0 : Int32).toInt ≤ (mi 33).toInt; have k_0 : (0 : Int32).toInt = 0 := (by decide +kernel); omega)⟩ (by have k_0 : (0 : Int32).toInt = 0 := (by decide +kernel); omega) hw29 (lv_sub hl33 [0, 1, 2, 3, 4, 5] rfl)
                  · skip
                    have hc_31 := nltE (a := x_26.toInt) (b := 0) rfl (by decide +kernel) c_31
                    refine lv_aload_n (pc := 96) E.1 E.2.1 dX9_follow_96 rfl (lv_at hl30 3 rfl) ?_
                    refine x_get (pc := 97) (T := TX10) (N := 17) (ci := 10) (v := .ref (mr 78)) E hw29 inX10 4 7 q_477 rfl rfl (by decide) rfl rfl dX9_follow_97 ?_
                    refine lv_iload (pc := 100) E.1 E.2.1 dX9_follow_100 (lv_at hl30 0 rfl) ?_
                    refine lv_aload_n (pc := 102) E.1 E.2.1 dX9_follow_102 rfl (lv_at hl30 3 rfl) ?_
                    refine x_get (pc := 103) (T := TX10) (N := 17) (ci := 10) (v := .ref (mr 27)) E hw29 inX10 4 1 q_461 rfl rfl (by decide) rfl rfl dX9_follow_103 ?_
                    refine cq_i (pc := 106) (ws' := (fun (u : Unit) => (WZ_TV1 cI cJ mr mi (va_up (va_up (va_up mf 3 g_8) 43 g_9) 44 g_10) (va_up (va_up mg 1 g_18) 2 g_27)))) hw29 [16, 17, 18, 19, 20, 21, 22, 23, 24] [0, 1, 2, 3, 4, 5, 6, 7, 8, 9, 10, 11, 12, 13, 14, 15, 25, 26, 27, 28, 29, 30, 31, 32, 33, 34, 35, 36, 37, 38, 39, 40, 41, 42, 43, 44, 45, 46, 47, 48, 49, 50, 51, 52, 53, 54] [0, 1, 2, 3, 4, 5, 6, 7, 8, 9, 10, 11, 12, 13, 14, 15, 46, 47, 48, 49, 50, 51, 52, 53, 54, 16, 17, 18, 19, 20, 21, 22, 23, 24, 25, 26, 27, 28, 29, 30, 31, 32, 33, 34, 35, 36, 37, 38, 39, 40, 41, 42, 43, 44, 45] rfl rfl (by decide) (by decide) (fun _ => rfl) (by decide) (rn_V (As := []) (rest := [.int x_26, .ref (mr 78)]) E hw29 (t_all1 l D cI cJ _ (ixf [27, 28, 29, 30, 31, 32, 33, 34, 35, 36] mr) (ixf [27, 28, 29, 30, 31, 32, 33, 34, 35, 36] mi) (ixf [27, 28, 29, 30, 31, 32, 33, 34, 35, 36] (va_up (va_up (va_up mf 3 g_8) 43 g_9) 44 g_10)) (ixf [27, 28, 29, 30, 31, 32, 33, 34, 35, 36] (va_up (va_up mg 1 g_18) 2 g_27)) (by show 0 ≤ (mi 33).toInt ∧ (mi 33).toInt ≤ 10; omega)) (gdV q_1333 q_1281 q_1282 q_154 q_1283) hdV_X1_all ⟨rfl, rfl⟩ ⟨(Nat.le_of_ble_eq_true rfl), (Nat.le_of_ble_eq_true rfl)⟩ ⟨(Nat.le_of_ble_eq_true rfl), (Nat.le_of_ble_eq_true rfl)⟩ xT_b xT_at 16 1 rfl rfl rfl [16, 17, 18, 19, 20, 21, 22, 23, 24] rfl (by decide) rfl hl30.1 rfl (Nat.le_of_ble_eq_true rfl) dX9_follow_106) (fun r_47 u_46 H1 locs hp hw48 => ?_)
                    generalize H1 = H at hw48 ⊢
                    have hw49 : WD D A s.heap (WZ_TV1 cI cJ mr mi (va_up (va_up (va_up mf 3 g_8) 43 g_9) 44 g_10) (va_up (va_up mg 1 g_18) 2 g_27)) H locs := hw48
                    obtain ⟨hp_50, hp_51⟩ := hp
                    have hp_50 : 0 ≤ r_47.toInt := hp_50
                    have hp_51 : r_47.toInt ≤ 1023 := hp_51
                    refine cq_i (pc := 109) (ws' := (fun (u : Unit) => (WZ_TV1 cI cJ mr mi (va_up (va_up (va_up mf 3 g_8) 43 g_9) 44 g_10) (va_up (va_up mg 1 g_18) 2 g_27)))) hw49 [52, 53, 54] [0, 1, 2, 3, 4, 5, 6, 7, 8, 9, 10, 11, 12, 13, 14, 15, 16, 17, 18, 19, 20, 21, 22, 23, 24, 25, 26, 27, 28, 29, 30, 31, 32, 33, 34, 35, 36, 37, 38, 39, 40, 41, 42, 43, 44, 45, 46, 47, 48, 49, 50, 51] [0, 1, 2, 3, 4, 5, 6, 7, 8, 9, 10, 11, 12, 13, 14, 15, 16, 17, 18, 19, 20, 21, 22, 23, 24, 25, 26, 27, 28, 29, 30, 31, 32, 33, 34, 35, 36, 37, 38, 39, 40, 41, 42, 43, 44, 45, 46, 47, 48, 49, 50, 51, 52, 53, 54] rfl rfl (by decide) (by decide) (fun _ => rfl) (by decide) (rn_V (As := [.int x_26, .int r_47]) (rest := []) E hw49 (t_left l D cI cJ _ (ixf [78, 79, 80, 81] mr) (ixf [78, 79, 80, 81] mi) (ixf [78, 79, 80, 81] (va_up (va_up (va_up mf 3 g_8) 43 g_9) 44 g_10)) (ixf [78, 79, 80, 81] (va_up (va_up mg 1 g_18) 2 g_27)) x_26 r_47 (by show 0 ≤ (mi 81).toInt ∧ (mi 81).toInt ≤ 8; omega)) (gdV q_1334 q_1335 q_1336 q_159 q_1337) hdV_X0_left ⟨rfl, rfl⟩ ⟨(Nat.le_of_ble_eq_true rfl), (Nat.le_of_ble_eq_true rfl)⟩ ⟨(Nat.le_of_ble_eq_true rfl), (Nat.le_of_ble_eq_true rfl)⟩ xT_b xT_at 52 0 rfl rfl rfl [52, 53, 54] rfl (by decide) rfl hl30.1 rfl (Nat.le_of_ble_eq_true rfl) dX9_follow_109) (fun r_53 u_52 H1 locs hp hw54 => ?_)
                    generalize H1 = H at hw54 ⊢
                    have hw55 : WD D A s.heap (WZ_TV1 cI cJ mr mi (va_up (va_up (va_up mf 3 g_8) 43 g_9) 44 g_10) (va_up (va_up mg 1 g_18) 2 g_27)) H locs := hw54
                    refine lv_istore (pc := 112) (lv' := [(5, .int r_53), (4, .int x_26), (3, .int (mi 33)), (0, .ref (mr 0)), (1, .ref (mr 4)), (2, .int z_n)]) E.1 E.2.1 dX9_follow_112 hl30 (by decide) rfl (fun ls hl56 => ?_)
                    refine lv_aload_n (pc := 114) E.1 E.2.1 dX9_follow_114 rfl (lv_at hl56 3 rfl) ?_
                    refine lv_aload_n (pc := 115) E.1 E.2.1 dX9_follow_115 rfl (lv_at hl56 3 rfl) ?_
                    refine x_get (pc := 116) (T := TX9) (N := 3) (ci := 9) (v := .ref (mr 2)) E hw55 inX9 0 1 q_595 rfl rfl (by decide) rfl rfl dX9_follow_116 ?_
                    refine lv_iload (pc := 119) E.1 E.2.1 dX9_follow_119 (lv_at hl56 1 rfl) ?_
                    refine lv_iload (pc := 121) E.1 E.2.1 dX9_follow_121 (lv_at hl56 1 rfl) ?_
                    refine lv_iconst (pc := 123) (v := 1) E.1 E.2.1 dX9_follow_123 (by decide +kernel) ?_
                    refine lv_iadd (pc := 124) E.1 E.2.1 dX9_follow_124 ?_
                    refine lv_topi (fun v_57 ev_57 => ?_)
                    have hv_57 : v_57.toInt = x_26.toInt + 1 := by rw [ev_57]; exact addE rfl (by decide +kernel) (by omega)
                    refine lv_iload_n (pc := 125) E.1 E.2.1 dX9_follow_125 rfl (lv_at hl56 5 rfl) ?_
                    refine lv_icmp_ge (pc := 126) (tgt := 136) E.1 E.2.1 dX9_follow_126 (by decide) (fun c_58 => ?_) (fun c_58 => ?_)
                    · skip
                      have hc_58 := leE (a := z_n.toInt) (b := v_57.toInt) rfl rfl c_58
                      refine lv_iconst (pc := 136) (v := (-1)) E.1 E.2.1 dX9_follow_136 (by decide +kernel) ?_
                      refine lv_iload (pc := 137) E.1 E.2.1 dX9_follow_137 (lv_at hl56 0 rfl) ?_
                      refine lv_iload_n (pc := 139) E.1 E.2.1 dX9_follow_139 rfl (lv_at hl56 2 rfl) ?_
                      refine cq_v (pc := 140) (ws' := (fun (u : (Nat → Int64)) => (WZ_TV1 cI cJ mr mi (va_up (va_up (va_up mf 3 g_8) 43 g_9) 44 g_10) (va_up (va_up mg 1 g_18) 2 u)))) hw55 [0, 1, 2, 3] [4, 5, 6, 7, 8, 9, 10, 11, 12, 13, 14, 15, 16, 17, 18, 19, 20, 21, 22, 23, 24, 25, 26, 27, 28, 29, 30, 31, 32, 33, 34, 35, 36, 37, 38, 39, 40, 41, 42, 43, 44, 45, 46, 47, 48, 49, 50, 51, 52, 53, 54] [51, 52, 53, 54, 0, 1, 2, 3, 4, 5, 6, 7, 8, 9, 10, 11, 12, 13, 14, 15, 16, 17, 18, 19, 20, 21, 22, 23, 24, 25, 26, 27, 28, 29, 30, 31, 32, 33, 34, 35, 36, 37, 38, 39, 40, 41, 42, 43, 44, 45, 46, 47, 48, 49, 50] rfl rfl (by decide) (by decide) (fun _ => rfl) (by decide) (rn_V (As := [.ref (mr 2), .int x_26, .int (-1), .int r_53, .int (mi 33)]) (rest := []) E hw55 (t_fill_going l D cI cJ _ (ixf [0, 1, 2, 3] mr) (ixf [0, 1, 2, 3] mi) (ixf [0, 1, 2, 3] (va_up (va_up (va_up mf 3 g_8) 43 g_9) 44 g_10)) (ixf [0, 1, 2, 3] (va_up (va_up mg 1 g_18) 2 g_27)) x_26 (-1) r_53 (mi 33) (by show 0 ≤ x_26.toInt ∧ x_26.toInt ≤ 9; omega) (by show (-1) ≤ ((-1) : Int32).toInt ∧ ((-1) : Int32).toInt ≤ 9; have k_0 : ((-1) : Int32).toInt = -1 := (by decide +kernel); omega) (by show 0 ≤ (mi 33).toInt ∧ (mi 33).toInt ≤ 10; omega)) (gdV q_1338 q_1340 q_45 q_161 q_1341) hdV_X9_fill ⟨rfl, rfl⟩ ⟨(Nat.le_of_ble_eq_true rfl), (Nat.le_of_ble_eq_true rfl)⟩ ⟨(Nat.le_of_ble_eq_true rfl), (Nat.le_of_ble_eq_true rfl)⟩ xT_b xT_at 0 9 rfl rfl rfl [0, 1, 2, 3] rfl (by decide) rfl hl56.1 rfl (Nat.le_of_ble_eq_true rfl) dX9_follow_140) (fun u_59 H1 locs hp hw61 => ?_)
                      obtain ⟨ggoing_62, rfl⟩ : ∃ z, z = u_59 := ⟨_, rfl⟩
                      generalize H1 = H at hw61 ⊢
                      have hw63 : WD D A s.heap (WZ_TV1 cI cJ mr mi (va_up (va_up (va_up mf 3 g_8) 43 g_9) 44 g_10) (va_up (va_up mg 1 g_18) 2 ggoing_62)) H locs := hw61
                      obtain ⟨v_64, ev_64⟩ : ∃ z : Int32, x_26 + Int32.ofInt (-1) = z := ⟨_, rfl⟩
                      have hv_64 : v_64.toInt = x_26.toInt + (-1) := by rw [← ev_64]; exact incE rfl (by decide) (by omega)
                      refine lv_iinc (pc := 143) (v := v_64) (lv' := [(4, .int v_64), (5, .int r_53), (3, .int (mi 33)), (0, .ref (mr 0)), (1, .ref (mr 4)), (2, .int z_n)]) E.1 E.2.1 dX9_follow_143 hl56 (k := 1) rfl ev_64 (by decide) rfl (fun ls hl65 => ?_)
                      refine lv_goto (pc := 146) (tgt := 91) E.1 E.2.1 dX9_follow_146 (by decide) ?_
                      exact ih_28 v_64 ggoing_62 _ _ _ ⟨(by show (-1) ≤ v_64.toInt; omega), (by show v_64.toInt + 1 ≤ z_n.toInt; omega)⟩ (by omega) hw63 (lv_sub hl65 [0, 2, 3, 4, 5] rfl)
                    · skip
                      have hc_58 := nleE (a := z_n.toInt) (b := v_57.toInt) rfl rfl c_58
                      refine lv_iload (pc := 129) E.1 E.2.1 dX9_follow_129 (lv_at hl56 1 rfl) ?_
                      refine lv_iconst (pc := 131) (v := 1) E.1 E.2.1 dX9_follow_131 (by decide +kernel) ?_
                      refine lv_iadd (pc := 132) E.1 E.2.1 dX9_follow_132 ?_
                      refine lv_topi (fun v_66 ev_66 => ?_)
                      have hv_66 : v_66.toInt = x_26.toInt + 1 := by rw [ev_66]; exact addE rfl (by decide +kernel) (by omega)
                      refine lv_goto (pc := 133) (tgt := 137) E.1 E.2.1 dX9_follow_133 (by decide) ?_
                      refine lv_iload (pc := 137) E.1 E.2.1 dX9_follow_137 (lv_at hl56 0 rfl) ?_
                      refine lv_iload_n (pc := 139) E.1 E.2.1 dX9_follow_139 rfl (lv_at hl56 2 rfl) ?_
                      refine cq_v (pc := 140) (ws' := (fun (u : (Nat → Int64)) => (WZ_TV1 cI cJ mr mi (va_up (va_up (va_up mf 3 g_8) 43 g_9) 44 g_10) (va_up (va_up mg 1 g_18) 2 u)))) hw55 [0, 1, 2, 3] [4, 5, 6, 7, 8, 9, 10, 11, 12, 13, 14, 15, 16, 17, 18, 19, 20, 21, 22, 23, 24, 25, 26, 27, 28, 29, 30, 31, 32, 33, 34, 35, 36, 37, 38, 39, 40, 41, 42, 43, 44, 45, 46, 47, 48, 49, 50, 51, 52, 53, 54] [51, 52, 53, 54, 0, 1, 2, 3, 4, 5, 6, 7, 8, 9, 10, 11, 12, 13, 14, 15, 16, 17, 18, 19, 20, 21, 22, 23, 24, 25, 26, 27, 28, 29, 30, 31, 32, 33, 34, 35, 36, 37, 38, 39, 40, 41, 42, 43, 44, 45, 46, 47, 48, 49, 50] rfl rfl (by decide) (by decide) (fun _ => rfl) (by decide) (rn_V (As := [.ref (mr 2), .int x_26, .int v_66, .int r_53, .int (mi 33)]) (rest := []) E hw55 (t_fill_going l D cI cJ _ (ixf [0, 1, 2, 3] mr) (ixf [0, 1, 2, 3] mi) (ixf [0, 1, 2, 3] (va_up (va_up (va_up mf 3 g_8) 43 g_9) 44 g_10)) (ixf [0, 1, 2, 3] (va_up (va_up mg 1 g_18) 2 g_27)) x_26 v_66 r_53 (mi 33) (by show 0 ≤ x_26.toInt ∧ x_26.toInt ≤ 9; omega) (by show (-1) ≤ v_66.toInt ∧ v_66.toInt ≤ 9; omega) (by show 0 ≤ (mi 33).toInt ∧ (mi 33).toInt ≤ 10; omega)) (gdV q_1338 q_1340 q_45 q_161 q_1341) hdV_X9_fill ⟨rfl, rfl⟩ ⟨(Nat.le_of_ble_eq_true rfl), (Nat.le_of_ble_eq_true rfl)⟩ ⟨(Nat.le_of_ble_eq_true rfl), (Nat.le_of_ble_eq_true rfl)⟩ xT_b xT_at 0 9 rfl rfl rfl [0, 1, 2, 3] rfl (by decide) rfl hl56.1 rfl (Nat.le_of_ble_eq_true rfl) dX9_follow_140) (fun u_67 H1 locs hp hw69 => ?_)
                      obtain ⟨ggoing_70, rfl⟩ : ∃ z, z = u_67 := ⟨_, rfl⟩
                      generalize H1 = H at hw69 ⊢
                      have hw71 : WD D A s.heap (WZ_TV1 cI cJ mr mi (va_up (va_up (va_up mf 3 g_8) 43 g_9) 44 g_10) (va_up (va_up mg 1 g_18) 2 ggoing_70)) H locs := hw69
                      obtain ⟨v_72, ev_72⟩ : ∃ z : Int32, x_26 + Int32.ofInt (-1) = z := ⟨_, rfl⟩
                      have hv_72 : v_72.toInt = x_26.toInt + (-1) := by rw [← ev_72]; exact incE rfl (by decide) (by omega)
                      refine lv_iinc (pc := 143) (v := v_72) (lv' := [(4, .int v_72), (5, .int r_53), (3, .int (mi 33)), (0, .ref (mr 0)), (1, .ref (mr 4)), (2, .int z_n)]) E.1 E.2.1 dX9_follow_143 hl56 (k := 1) rfl ev_72 (by decide) rfl (fun ls hl73 => ?_)
                      refine lv_goto (pc := 146) (tgt := 91) E.1 E.2.1 dX9_follow_146 (by decide) ?_
                      exact ih_28 v_72 ggoing_70 _ _ _ ⟨(by show (-1) ≤ v_72.toInt; omega), (by show v_72.toInt + 1 ≤ z_n.toInt; omega)⟩ (by omega) hw71 (lv_sub hl73 [0, 2, 3, 4, 5] rfl)
              exact loop_25 (Int.toNat (v_23.toInt + 1) + 1) v_23 (mg 2) _ _ _ ⟨(by show (-1) ≤ v_23.toInt; omega), (by show v_23.toInt + 1 ≤ z_n.toInt; omega)⟩ (by omega) hw20 (lv_sub hl24 [0, 1, 2, 3, 4] rfl)
            · skip
              have hc_22 := nleE (a := z_n.toInt) (b := x_17.toInt) rfl rfl c_22
              refine lv_aload_n (pc := 45) E.1 E.2.1 dX9_follow_45 rfl (lv_at hl21 3 rfl) ?_
              refine x_get (pc := 46) (T := TX10) (N := 17) (ci := 10) (v := .ref (mr 78)) E hw20 inX10 4 7 q_477 rfl rfl (by decide) rfl rfl dX9_follow_46 ?_
              refine lv_iload (pc := 49) E.1 E.2.1 dX9_follow_49 (lv_at hl21 0 rfl) ?_
              refine lv_aload_n (pc := 51) E.1 E.2.1 dX9_follow_51 rfl (lv_at hl21 3 rfl) ?_
              refine x_get (pc := 52) (T := TX10) (N := 17) (ci := 10) (v := .ref (mr 27)) E hw20 inX10 4 1 q_461 rfl rfl (by decide) rfl rfl dX9_follow_52 ?_
              refine cq_i (pc := 55) (ws' := (fun (u : Unit) => (WZ_TV1 cI cJ mr mi (va_up (va_up (va_up mf 3 g_8) 43 g_9) 44 g_10) (va_up mg 1 g_18)))) hw20 [16, 17, 18, 19, 20, 21, 22, 23, 24] [0, 1, 2, 3, 4, 5, 6, 7, 8, 9, 10, 11, 12, 13, 14, 15, 25, 26, 27, 28, 29, 30, 31, 32, 33, 34, 35, 36, 37, 38, 39, 40, 41, 42, 43, 44, 45, 46, 47, 48, 49, 50, 51, 52, 53, 54] [0, 1, 2, 3, 4, 5, 6, 7, 8, 9, 10, 11, 12, 13, 14, 15, 46, 47, 48, 49, 50, 51, 52, 53, 54, 16, 17, 18, 19, 20, 21, 22, 23, 24, 25, 26, 27, 28, 29, 30, 31, 32, 33, 34, 35, 36, 37, 38, 39, 40, 41, 42, 43, 44, 45] rfl rfl (by decide) (by decide) (fun _ => rfl) (by decide) (rn_V (As := []) (rest := [.int x_17, .ref (mr 78)]) E hw20 (t_all1 l D cI cJ _ (ixf [27, 28, 29, 30, 31, 32, 33, 34, 35, 36] mr) (ixf [27, 28, 29, 30, 31, 32, 33, 34, 35, 36] mi) (ixf [27, 28, 29, 30, 31, 32, 33, 34, 35, 36] (va_up (va_up (va_up mf 3 g_8) 43 g_9) 44 g_10)) (ixf [27, 28, 29, 30, 31, 32, 33, 34, 35, 36] (va_up mg 1 g_18)) (by show 0 ≤ (mi 33).toInt ∧ (mi 33).toInt ≤ 10; omega)) (gdV q_1333 q_1281 q_1282 q_154 q_1283) hdV_X1_all ⟨rfl, rfl⟩ ⟨(Nat.le_of_ble_eq_true rfl), (Nat.le_of_ble_eq_true rfl)⟩ ⟨(Nat.le_of_ble_eq_true rfl), (Nat.le_of_ble_eq_true rfl)⟩ xT_b xT_at 16 1 rfl rfl rfl [16, 17, 18, 19, 20, 21, 22, 23, 24] rfl (by decide) rfl hl21.1 rfl (Nat.le_of_ble_eq_true rfl) dX9_follow_55) (fun r_75 u_74 H1 locs hp hw76 => ?_)
              generalize H1 = H at hw76 ⊢
              have hw77 : WD D A s.heap (WZ_TV1 cI cJ mr mi (va_up (va_up (va_up mf 3 g_8) 43 g_9) 44 g_10) (va_up mg 1 g_18)) H locs := hw76
              obtain ⟨hp_78, hp_79⟩ := hp
              have hp_78 : 0 ≤ r_75.toInt := hp_78
              have hp_79 : r_75.toInt ≤ 1023 := hp_79
              refine cq_i (pc := 58) (ws' := (fun (u : Unit) => (WZ_TV1 cI cJ mr mi (va_up (va_up (va_up mf 3 g_8) 43 g_9) 44 g_10) (va_up mg 1 g_18)))) hw77 [52, 53, 54] [0, 1, 2, 3, 4, 5, 6, 7, 8, 9, 10, 11, 12, 13, 14, 15, 16, 17, 18, 19, 20, 21, 22, 23, 24, 25, 26, 27, 28, 29, 30, 31, 32, 33, 34, 35, 36, 37, 38, 39, 40, 41, 42, 43, 44, 45, 46, 47, 48, 49, 50, 51] [0, 1, 2, 3, 4, 5, 6, 7, 8, 9, 10, 11, 12, 13, 14, 15, 16, 17, 18, 19, 20, 21, 22, 23, 24, 25, 26, 27, 28, 29, 30, 31, 32, 33, 34, 35, 36, 37, 38, 39, 40, 41, 42, 43, 44, 45, 46, 47, 48, 49, 50, 51, 52, 53, 54] rfl rfl (by decide) (by decide) (fun _ => rfl) (by decide) (rn_V (As := [.int x_17, .int r_75]) (rest := []) E hw77 (t_left l D cI cJ _ (ixf [78, 79, 80, 81] mr) (ixf [78, 79, 80, 81] mi) (ixf [78, 79, 80, 81] (va_up (va_up (va_up mf 3 g_8) 43 g_9) 44 g_10)) (ixf [78, 79, 80, 81] (va_up mg 1 g_18)) x_17 r_75 (by show 0 ≤ (mi 81).toInt ∧ (mi 81).toInt ≤ 8; omega)) (gdV q_1334 q_1335 q_1336 q_159 q_1337) hdV_X0_left ⟨rfl, rfl⟩ ⟨(Nat.le_of_ble_eq_true rfl), (Nat.le_of_ble_eq_true rfl)⟩ ⟨(Nat.le_of_ble_eq_true rfl), (Nat.le_of_ble_eq_true rfl)⟩ xT_b xT_at 52 0 rfl rfl rfl [52, 53, 54] rfl (by decide) rfl hl21.1 rfl (Nat.le_of_ble_eq_true rfl) dX9_follow_58) (fun r_81 u_80 H1 locs hp hw82 => ?_)
              generalize H1 = H at hw82 ⊢
              have hw83 : WD D A s.heap (WZ_TV1 cI cJ mr mi (va_up (va_up (va_up mf 3 g_8) 43 g_9) 44 g_10) (va_up mg 1 g_18)) H locs := hw82
              refine lv_istore (pc := 61) (lv' := [(5, .int r_81), (4, .int x_17), (3, .int (mi 33)), (0, .ref (mr 0)), (1, .ref (mr 4)), (2, .int z_n)]) E.1 E.2.1 dX9_follow_61 hl21 (by decide) rfl (fun ls hl84 => ?_)
              refine lv_aload_n (pc := 63) E.1 E.2.1 dX9_follow_63 rfl (lv_at hl84 3 rfl) ?_
              refine lv_aload_n (pc := 64) E.1 E.2.1 dX9_follow_64 rfl (lv_at hl84 3 rfl) ?_
              refine x_get (pc := 65) (T := TX9) (N := 3) (ci := 9) (v := .ref (mr 1)) E hw83 inX9 0 0 q_594 rfl rfl (by decide) rfl rfl dX9_follow_65 ?_
              refine lv_iload (pc := 68) E.1 E.2.1 dX9_follow_68 (lv_at hl84 1 rfl) ?_
              refine lv_iload (pc := 70) E.1 E.2.1 dX9_follow_70 (lv_at hl84 1 rfl) ?_
              refine lv_iconst (pc := 72) (v := 1) E.1 E.2.1 dX9_follow_72 (by decide +kernel) ?_
              refine lv_isub (pc := 73) E.1 E.2.1 dX9_follow_73 ?_
              refine lv_topi (fun v_85 ev_85 => ?_)
              have hv_85 : v_85.toInt = x_17.toInt - 1 := by rw [ev_85]; exact subE rfl (by decide +kernel) (by omega)
              refine lv_iload (pc := 74) E.1 E.2.1 dX9_follow_74 (lv_at hl84 0 rfl) ?_
              refine lv_iload_n (pc := 76) E.1 E.2.1 dX9_follow_76 rfl (lv_at hl84 2 rfl) ?_
              refine cq_v (pc := 77) (ws' := (fun (u : (Nat → Int64)) => (WZ_TV1 cI cJ mr mi (va_up (va_up (va_up mf 3 g_8) 43 g_9) 44 g_10) (va_up mg 1 u)))) hw83 [0, 1, 2, 3] [4, 5, 6, 7, 8, 9, 10, 11, 12, 13, 14, 15, 16, 17, 18, 19, 20, 21, 22, 23, 24, 25, 26, 27, 28, 29, 30, 31, 32, 33, 34, 35, 36, 37, 38, 39, 40, 41, 42, 43, 44, 45, 46, 47, 48, 49, 50, 51, 52, 53, 54] [51, 52, 53, 54, 0, 1, 2, 3, 4, 5, 6, 7, 8, 9, 10, 11, 12, 13, 14, 15, 16, 17, 18, 19, 20, 21, 22, 23, 24, 25, 26, 27, 28, 29, 30, 31, 32, 33, 34, 35, 36, 37, 38, 39, 40, 41, 42, 43, 44, 45, 46, 47, 48, 49, 50] rfl rfl (by decide) (by decide) (fun _ => rfl) (by decide) (rn_V (As := [.ref (mr 1), .int x_17, .int v_85, .int r_81, .int (mi 33)]) (rest := []) E hw83 (t_fill_leading l D cI cJ _ (ixf [0, 1, 2, 3] mr) (ixf [0, 1, 2, 3] mi) (ixf [0, 1, 2, 3] (va_up (va_up (va_up mf 3 g_8) 43 g_9) 44 g_10)) (ixf [0, 1, 2, 3] (va_up mg 1 g_18)) x_17 v_85 r_81 (mi 33) (by show 0 ≤ x_17.toInt ∧ x_17.toInt ≤ 9; omega) (by show (-1) ≤ v_85.toInt ∧ v_85.toInt ≤ 9; omega) (by show 0 ≤ (mi 33).toInt ∧ (mi 33).toInt ≤ 10; omega)) (gdV q_1338 q_1340 q_45 q_161 q_1341) hdV_X9_fill ⟨rfl, rfl⟩ ⟨(Nat.le_of_ble_eq_true rfl), (Nat.le_of_ble_eq_true rfl)⟩ ⟨(Nat.le_of_ble_eq_true rfl), (Nat.le_of_ble_eq_true rfl)⟩ xT_b xT_at 0 9 rfl rfl rfl [0, 1, 2, 3] rfl (by decide) rfl hl84.1 rfl (Nat.le_of_ble_eq_true rfl) dX9_follow_77) (fun u_86 H1 locs hp hw88 => ?_)
              obtain ⟨gleading_89, rfl⟩ : ∃ z, z = u_86 := ⟨_, rfl⟩
              generalize H1 = H at hw88 ⊢
              have hw90 : WD D A s.heap (WZ_TV1 cI cJ mr mi (va_up (va_up (va_up mf 3 g_8) 43 g_9) 44 g_10) (va_up mg 1 gleading_89)) H locs := hw88
              obtain ⟨v_91, ev_91⟩ : ∃ z : Int32, x_17 + Int32.ofInt (1) = z := ⟨_, rfl⟩
              have hv_91 : v_91.toInt = x_17.toInt + (1) := by rw [← ev_91]; exact incE rfl (by decide) (by omega)
              refine lv_iinc (pc := 80) (v := v_91) (lv' := [(4, .int v_91), (5, .int r_81), (3, .int (mi 33)), (0, .ref (mr 0)), (1, .ref (mr 4)), (2, .int z_n)]) E.1 E.2.1 dX9_follow_80 hl84 (k := 1) rfl ev_91 (by decide) rfl (fun ls hl92 => ?_)
              refine lv_goto (pc := 83) (tgt := 39) E.1 E.2.1 dX9_follow_83 (by decide) ?_
              exact ih_19 v_91 gleading_89 _ _ _ ⟨(by show 0 ≤ v_91.toInt; omega), (by show v_91.toInt ≤ z_n.toInt; omega)⟩ (by omega) hw90 (lv_sub hl92 [0, 2, 3, 4, 5] rfl)
        exact loop_16 (Int.toNat (z_n.toInt - 0) + 1) 0 (mg 1) _ _ _ ⟨(by show 0 ≤ (0 : Int32).toInt; have k_0 : (0 : Int32).toInt = 0 := (by decide +kernel); omega), (by show (0 : Int32).toInt ≤ z_n.toInt; have k_0 : (0 : Int32).toInt = 0 := (by decide +kernel); omega)⟩ (by have k_0 : (0 : Int32).toInt = 0 := (by decide +kernel); omega) hw12 (lv_sub hl15 [0, 1, 2, 3, 4] rfl)
      · skip
        have hc_14 := nleE (a := (mi 33).toInt) (b := x_7.toInt) rfl rfl c_14
        refine lv_aload_n (pc := 17) E.1 E.2.1 dX9_follow_17 rfl (lv_at hl13 2 rfl) ?_
        refine x_get (pc := 18) (T := TX9) (N := 3) (ci := 9) (v := .ref (mr 3)) E hw12 inX9 0 2 q_596 rfl rfl (by decide) rfl rfl dX9_follow_18 ?_
        refine lv_iload (pc := 21) E.1 E.2.1 dX9_follow_21 (lv_at hl13 0 rfl) ?_
        refine lv_aload_n (pc := 23) E.1 E.2.1 dX9_follow_23 rfl (lv_at hl13 3 rfl) ?_
        refine lv_iload (pc := 24) E.1 E.2.1 dX9_follow_24 (lv_at hl13 0 rfl) ?_
        refine cq_i (pc := 26) (ws' := (fun (u : (Nat → Int32) × (Nat → Int32)) => (WZ_TV1 cI cJ mr mi (va_up (va_up (va_up mf 3 g_8) 43 u.1) 44 u.2) mg))) hw12 [4, 5, 6, 7, 8, 9, 10, 11, 12, 13, 14, 15, 16, 17, 18, 19, 20, 21, 22, 23, 24, 25, 26, 27, 28, 29, 30, 31, 32, 33, 34, 35, 36, 37, 38, 39, 40, 41, 42, 43, 44, 45, 46, 47, 48, 49, 50, 51, 52, 53, 54] [0, 1, 2, 3] [0, 1, 2, 3, 4, 5, 6, 7, 8, 9, 10, 11, 12, 13, 14, 15, 16, 17, 18, 19, 20, 21, 22, 23, 24, 25, 26, 27, 28, 29, 30, 31, 32, 33, 34, 35, 36, 37, 38, 39, 40, 41, 42, 43, 44, 45, 46, 47, 48, 49, 50, 51, 52, 53, 54] rfl rfl (by decide) (by decide) (fun _ => rfl) (by decide) (rn_V (As := [.int x_7]) (rest := [.int x_7, .ref (mr 3)]) E hw12 (t_reachedSet1 l D cI cJ _ (ixf [4, 5, 6, 7, 8, 9, 10, 11, 12, 13, 14, 15, 16, 17, 18, 19, 20, 21, 22, 23, 24, 25, 26, 27, 28, 29, 30, 31, 32, 33, 34, 35, 36, 37, 38, 39, 40, 41, 42, 43, 44, 45, 46, 47, 48, 49, 50, 51, 52, 53, 54, 55, 56, 57, 58, 59, 60, 61, 62, 63, 64, 65, 66, 67, 68, 69, 70, 71, 72, 73, 74, 75, 76, 77, 78, 79, 80, 81] mr) (ixf [4, 5, 6, 7, 8, 9, 10, 11, 12, 13, 14, 15, 16, 17, 18, 19, 20, 21, 22, 23, 24, 25, 26, 27, 28, 29, 30, 31, 32, 33, 34, 35, 36, 37, 38, 39, 40, 41, 42, 43, 44, 45, 46, 47, 48, 49, 50, 51, 52, 53, 54, 55, 56, 57, 58, 59, 60, 61, 62, 63, 64, 65, 66, 67, 68, 69, 70, 71, 72, 73, 74, 75, 76, 77, 78, 79, 80, 81] mi) (ixf [4, 5, 6, 7, 8, 9, 10, 11, 12, 13, 14, 15, 16, 17, 18, 19, 20, 21, 22, 23, 24, 25, 26, 27, 28, 29, 30, 31, 32, 33, 34, 35, 36, 37, 38, 39, 40, 41, 42, 43, 44, 45, 46, 47, 48, 49, 50, 51, 52, 53, 54, 55, 56, 57, 58, 59, 60, 61, 62, 63, 64, 65, 66, 67, 68, 69, 70, 71, 72, 73, 74, 75, 76, 77, 78, 79, 80, 81] (va_up (va_up (va_up mf 3 g_8) 43 g_9) 44 g_10)) (ixf [4, 5, 6, 7, 8, 9, 10, 11, 12, 13, 14, 15, 16, 17, 18, 19, 20, 21, 22, 23, 24, 25, 26, 27, 28, 29, 30, 31, 32, 33, 34, 35, 36, 37, 38, 39, 40, 41, 42, 43, 44, 45, 46, 47, 48, 49, 50, 51, 52, 53, 54, 55, 56, 57, 58, 59, 60, 61, 62, 63, 64, 65, 66, 67, 68, 69, 70, 71, 72, 73, 74, 75, 76, 77, 78, 79, 80, 81] mg) x_7 (by show 0 ≤ (mi 33).toInt ∧ (mi 33).toInt ≤ 10; omega) (by show 0 ≤ (mi 42).toInt ∧ (mi 42).toInt ≤ 40; omega) (by show 0 ≤ (mi 51).toInt ∧ (mi 51).toInt ≤ 10; omega) a_p_from a_p_to) (gdV q_1332 q_1108 q_1109 q_152 q_1110) hdV_X10_reachedSet ⟨rfl, rfl⟩ ⟨(Nat.le_of_ble_eq_true rfl), (Nat.le_of_ble_eq_true rfl)⟩ ⟨(Nat.le_of_ble_eq_true rfl), (Nat.le_of_ble_eq_true rfl)⟩ xT_b xT_at 4 10 rfl rfl rfl [4, 5, 6, 7, 8, 9, 10, 11, 12, 13, 14, 15, 16, 17, 18, 19, 20, 21, 22, 23, 24, 25, 26, 27, 28, 29, 30, 31, 32, 33, 34, 35, 36, 37, 38, 39, 40, 41, 42, 43, 44, 45, 46, 47, 48, 49, 50, 51, 52, 53, 54] rfl (by decide) rfl hl13.1 rfl (Nat.le_of_ble_eq_true rfl) dX9_follow_26) (fun r_94 u_93 H1 locs hp hw95 => ?_)
        obtain ⟨gpmeasured_96, gpmeasuredIn_97⟩ := u_93
        generalize H1 = H at hw95 ⊢
        have hw98 : WD D A s.heap (WZ_TV1 cI cJ mr mi (va_up (va_up (va_up mf 3 g_8) 43 gpmeasured_96) 44 gpmeasuredIn_97) mg) H locs := hw95
        refine x_iastG (pc := 29) (f := g_8) (wf := fun g => (WZ_TV1 cI cJ mr mi (va_up (va_up (va_up mf 3 g) 43 gpmeasured_96) 44 gpmeasuredIn_97) mg)) E hw98 3 rfl (inbE (a := x_7.toInt) rfl (by omega)) (fun _ => rfl) dX9_follow_29 (fun g_99 H locs eg_99 hw100 => ?_)
        obtain ⟨v_101, ev_101⟩ : ∃ z : Int32, x_7 + Int32.ofInt (1) = z := ⟨_, rfl⟩
        have hv_101 : v_101.toInt = x_7.toInt + (1) := by rw [← ev_101]; exact incE rfl (by decide) (by omega)
        refine lv_iinc (pc := 30) (v := v_101) (lv' := [(4, .int v_101), (3, .int (mi 33)), (0, .ref (mr 0)), (1, .ref (mr 4)), (2, .int z_n)]) E.1 E.2.1 dX9_follow_30 hl13 (k := 0) rfl ev_101 (by decide) rfl (fun ls hl102 => ?_)
        refine lv_goto (pc := 33) (tgt := 11) E.1 E.2.1 dX9_follow_33 (by decide) ?_
        exact ih_11 v_101 g_99 gpmeasured_96 gpmeasuredIn_97 _ _ _ ⟨(by show 0 ≤ v_101.toInt; omega), (by show v_101.toInt ≤ (mi 33).toInt; omega)⟩ (by omega) hw100 (lv_sub hl102 [0, 1, 2, 3, 4] rfl)
  exact loop_6 (Int.toNat ((mi 33).toInt - 0) + 1) 0 (mf 3) (mf 43) (mf 44) _ _ _ ⟨(by show 0 ≤ (0 : Int32).toInt; have k_0 : (0 : Int32).toInt = 0 := (by decide +kernel); omega), (by show (0 : Int32).toInt ≤ (mi 33).toInt; have k_0 : (0 : Int32).toInt = 0 := (by decide +kernel); omega)⟩ (by have k_0 : (0 : Int32).toInt = 0 := (by decide +kernel); omega) hw1 (lv_sub hl5 [0, 1, 2, 3, 4] rfl)
