set_option maxHeartbeats 4000000 in
set_option maxRecDepth 100000 in
theorem t_search0 (l : Launch) (D : va_G) (cI cJ : ClassId) (sz : Nat) (mr : Nat → Nat) (mi : Nat → Int32) (mf : Nat → Nat → Int32) (mg : Nat → Nat → Int64) (z_n : Int32) (h0 : 0 ≤ (mi 40).toInt ∧ (mi 40).toInt ≤ 10) (h1 : 0 ≤ (mi 48).toInt ∧ (mi 48).toInt ≤ 40) (h2 : 0 ≤ (mi 57).toInt ∧ (mi 57).toInt ≤ 10) (h3 : 1 ≤ z_n.toInt ∧ z_n.toInt ≤ 10) (a_p_from : p9 (mf 44)) (a_p_to : p9 (mf 45)) (a_wanted : w9 (mf 7)) (a_served : s1k (mf 9)) (a_wed : s1k (mf 10)) : Met l yX6_search (Cond.code yX6_search cX6_search 8 none :: GW) ({ frames := 5, cells := 0, slots := 0, locals := 139 } : Room) (va_Pc [.ref (mr 0), .ref (mr 11), .int z_n] (PW D cI cJ sz (WZ_PV0 cI cJ mr mi mf mg) xT)) (va_Qv (fun (u : Int32 × (Nat → Int32) × (Nat → Int32) × (Nat → Int64) × (Nat → Int64) × (Nat → Int32) × (Nat → Int32) × Int32 × (Nat → Int64) × Int32 × (Nat → Int32) × (Nat → Int32)) => (u.2.2.2.2.2.2.2.2.2.1.toInt = z_n.toInt) ∧ (0 ≤ u.1.toInt) ∧ (u.1.toInt ≤ 10) ∧ (s1k u.2.2.2.2.2.1) ∧ (s1k u.2.2.2.2.2.2.1) ∧ (w9 u.2.1)) (fun u => QW D cI cJ (va_A (WZ_PV0 cI cJ mr mi mf mg) sz) ((fun (u : Int32 × (Nat → Int32) × (Nat → Int32) × (Nat → Int64) × (Nat → Int64) × (Nat → Int32) × (Nat → Int32) × Int32 × (Nat → Int64) × Int32 × (Nat → Int32) × (Nat → Int32)) => (WZ_PV0 cI cJ mr (upd (upd (upd mi 8 u.1) 2 u.2.2.2.2.2.2.2.1) 1 u.2.2.2.2.2.2.2.2.2.1) (va_up (va_up (va_up (va_up (va_up (va_up mf 7 u.2.1) 6 u.2.2.1) 9 u.2.2.2.2.2.1) 10 u.2.2.2.2.2.2.1) 49 u.2.2.2.2.2.2.2.2.2.2.1) 50 u.2.2.2.2.2.2.2.2.2.2.2) (va_up (va_up (va_up mg 4 u.2.2.2.1) 5 u.2.2.2.2.1) 3 u.2.2.2.2.2.2.2.2.1))) u)) (va_A (WZ_PV0 cI cJ mr mi mf mg) sz)) 0 0 (va_A (WZ_PV0 cI cJ mr mi mf mg) sz) := by
  refine mk_met (y := yX6_search) (bytes := cX6_search) (maxL := 8) (avs := [.ref (mr 0), .ref (mr 11), .int z_n]) (WS := (WZ_PV0 cI cJ mr mi mf mg)) (Qf := fun A => va_Qv (fun (u : Int32 × (Nat → Int32) × (Nat → Int32) × (Nat → Int64) × (Nat → Int64) × (Nat → Int32) × (Nat → Int32) × Int32 × (Nat → Int64) × Int32 × (Nat → Int32) × (Nat → Int32)) => (u.2.2.2.2.2.2.2.2.2.1.toInt = z_n.toInt) ∧ (0 ≤ u.1.toInt) ∧ (u.1.toInt ≤ 10) ∧ (s1k u.2.2.2.2.2.1) ∧ (s1k u.2.2.2.2.2.2.1) ∧ (w9 u.2.1)) (fun u => QW D cI cJ A ((fun (u : Int32 × (Nat → Int32) × (Nat → Int32) × (Nat → Int64) × (Nat → Int64) × (Nat → Int32) × (Nat → Int32) × Int32 × (Nat → Int64) × Int32 × (Nat → Int32) × (Nat → Int32)) => (WZ_PV0 cI cJ mr (upd (upd (upd mi 8 u.1) 2 u.2.2.2.2.2.2.2.1) 1 u.2.2.2.2.2.2.2.2.2.1) (va_up (va_up (va_up (va_up (va_up (va_up mf 7 u.2.1) 6 u.2.2.1) 9 u.2.2.2.2.2.1) 10 u.2.2.2.2.2.2.1) 49 u.2.2.2.2.2.2.2.2.2.2.1) 50 u.2.2.2.2.2.2.2.2.2.2.2) (va_up (va_up (va_up mg 4 u.2.2.2.1) 5 u.2.2.2.2.1) 3 u.2.2.2.2.2.2.2.2.1))) u)) A) (by decide) (Nat.le_of_ble_eq_true rfl) ?_
  intro p e s m below meth c A ls E hr hlk hnm hX hw1 hl2
  have hl3 : lv_has ls 8 [(0, .ref (mr 0)), (1, .ref (mr 11)), (2, .int z_n)] := hl2
  refine lv_aload_n (pc := 0) E.1 E.2.1 dX6_search_0 rfl (lv_at hl3 0 rfl) ?_
  refine lv_aload_n (pc := 1) E.1 E.2.1 dX6_search_1 rfl (lv_at hl3 1 rfl) ?_
  refine lv_iload_n (pc := 2) E.1 E.2.1 dX6_search_2 rfl (lv_at hl3 2 rfl) ?_
  refine cq_v (pc := 3) (ws' := (fun (u : Int32 × (Nat → Int32)) => (WZ_PV0 cI cJ mr (upd mi 8 u.1) (va_up mf 7 u.2) mg))) hw1 [0, 1, 2, 3, 4, 5, 6, 7, 8, 9, 10, 11, 12, 13, 14, 15, 16, 17, 18, 19, 20, 21, 22, 23, 24, 25, 26, 27, 28, 29, 30, 31, 32, 33, 34, 35, 36, 37, 38, 39, 40, 41, 42, 43, 44, 45, 46, 47, 48, 49, 50, 51, 52, 53, 54, 55, 56] [] [0, 1, 2, 3, 4, 5, 6, 7, 8, 9, 10, 11, 12, 13, 14, 15, 16, 17, 18, 19, 20, 21, 22, 23, 24, 25, 26, 27, 28, 29, 30, 31, 32, 33, 34, 35, 36, 37, 38, 39, 40, 41, 42, 43, 44, 45, 46, 47, 48, 49, 50, 51, 52, 53, 54, 55, 56] rfl rfl (by decide) (by decide) (fun _ => rfl) (by decide) (rn_V (As := [.ref (mr 11), .int z_n]) (rest := []) E hw1 (t_gatherNeeds0 l D cI cJ _ (ixf [0, 1, 2, 3, 4, 5, 6, 7, 8, 9, 10, 11, 12, 13, 14, 15, 16, 17, 18, 19, 20, 21, 22, 23, 24, 25, 26, 27, 28, 29, 30, 31, 32, 33, 34, 35, 36, 37, 38, 39, 40, 41, 42, 43, 44, 45, 46, 47, 48, 49, 50, 51, 52, 53, 54, 55, 56, 57, 58, 59, 60, 61, 62, 63, 64, 65, 66, 67, 68, 69, 70, 71, 72, 73, 74, 75, 76, 77, 78, 79, 80, 81, 82, 83, 84, 85, 86, 87] mr) (ixf [0, 1, 2, 3, 4, 5, 6, 7, 8, 9, 10, 11, 12, 13, 14, 15, 16, 17, 18, 19, 20, 21, 22, 23, 24, 25, 26, 27, 28, 29, 30, 31, 32, 33, 34, 35, 36, 37, 38, 39, 40, 41, 42, 43, 44, 45, 46, 47, 48, 49, 50, 51, 52, 53, 54, 55, 56, 57, 58, 59, 60, 61, 62, 63, 64, 65, 66, 67, 68, 69, 70, 71, 72, 73, 74, 75, 76, 77, 78, 79, 80, 81, 82, 83, 84, 85, 86, 87] mi) (ixf [0, 1, 2, 3, 4, 5, 6, 7, 8, 9, 10, 11, 12, 13, 14, 15, 16, 17, 18, 19, 20, 21, 22, 23, 24, 25, 26, 27, 28, 29, 30, 31, 32, 33, 34, 35, 36, 37, 38, 39, 40, 41, 42, 43, 44, 45, 46, 47, 48, 49, 50, 51, 52, 53, 54, 55, 56, 57, 58, 59, 60, 61, 62, 63, 64, 65, 66, 67, 68, 69, 70, 71, 72, 73, 74, 75, 76, 77, 78, 79, 80, 81, 82, 83, 84, 85, 86, 87] mf) (ixf [0, 1, 2, 3, 4, 5, 6, 7, 8, 9, 10, 11, 12, 13, 14, 15, 16, 17, 18, 19, 20, 21, 22, 23, 24, 25, 26, 27, 28, 29, 30, 31, 32, 33, 34, 35, 36, 37, 38, 39, 40, 41, 42, 43, 44, 45, 46, 47, 48, 49, 50, 51, 52, 53, 54, 55, 56, 57, 58, 59, 60, 61, 62, 63, 64, 65, 66, 67, 68, 69, 70, 71, 72, 73, 74, 75, 76, 77, 78, 79, 80, 81, 82, 83, 84, 85, 86, 87] mg) z_n (by show 0 ≤ (mi 40).toInt ∧ (mi 40).toInt ≤ 10; omega) (by show 0 ≤ (mi 48).toInt ∧ (mi 48).toInt ≤ 40; omega) (by show 0 ≤ (mi 57).toInt ∧ (mi 57).toInt ≤ 10; omega) a_wanted) (gdV q_1197 q_1199 q_31 q_170 q_1200) hdV_X6_gatherNeeds ⟨rfl, rfl⟩ ⟨(Nat.le_of_ble_eq_true rfl), (Nat.le_of_ble_eq_true rfl)⟩ ⟨(Nat.le_of_ble_eq_true rfl), (Nat.le_of_ble_eq_true rfl)⟩ xT_b xT_at 0 6 rfl rfl rfl [0, 1, 2, 3, 4, 5, 6, 7, 8, 9, 10, 11, 12, 13, 14, 15, 16, 17, 18, 19, 20, 21, 22, 23, 24, 25, 26, 27, 28, 29, 30, 31, 32, 33, 34, 35, 36, 37, 38, 39, 40, 41, 42, 43, 44, 45, 46, 47, 48, 49, 50, 51, 52, 53, 54, 55, 56] rfl (by decide) rfl hl3.1 rfl (Nat.le_of_ble_eq_true rfl) dX6_search_3) (fun u_4 H1 locs hp hw6 => ?_)
  obtain ⟨nwants_7, gwanted_8⟩ := u_4
  generalize H1 = H at hw6 ⊢
  have hw9 : WD D A s.heap (WZ_PV0 cI cJ mr (upd mi 8 nwants_7) (va_up mf 7 gwanted_8) mg) H locs := hw6
  obtain ⟨hp_10, hp_11, hp_12⟩ := hp
  have hp_10 : 0 ≤ nwants_7.toInt := hp_10
  have hp_11 : nwants_7.toInt ≤ 10 := hp_11
  refine lv_aload_n (pc := 6) E.1 E.2.1 dX6_search_6 rfl (lv_at hl3 0 rfl) ?_
  refine lv_aload_n (pc := 7) E.1 E.2.1 dX6_search_7 rfl (lv_at hl3 1 rfl) ?_
  refine cq_v (pc := 8) (ws' := (fun (u : (Nat → Int32) × (Nat → Int32) × (Nat → Int32)) => (WZ_PV0 cI cJ mr (upd mi 8 nwants_7) (va_up (va_up (va_up (va_up mf 6 u.1) 7 gwanted_8) 49 u.2.1) 50 u.2.2) mg))) hw9 [0, 1, 2, 3, 4, 5, 6, 7, 8, 9, 10, 11, 12, 13, 14, 15, 16, 17, 18, 19, 20, 21, 22, 23, 24, 25, 26, 27, 28, 29, 30, 31, 32, 33, 34, 35, 36, 37, 38, 39, 40, 41, 42, 43, 44, 45, 46, 47, 48, 49, 50, 51, 52, 53, 54, 55, 56] [] [0, 1, 2, 3, 4, 5, 6, 7, 8, 9, 10, 11, 12, 13, 14, 15, 16, 17, 18, 19, 20, 21, 22, 23, 24, 25, 26, 27, 28, 29, 30, 31, 32, 33, 34, 35, 36, 37, 38, 39, 40, 41, 42, 43, 44, 45, 46, 47, 48, 49, 50, 51, 52, 53, 54, 55, 56] rfl rfl (by decide) (by decide) (fun _ => rfl) (by decide) (rn_V (As := [.ref (mr 11)]) (rest := []) E hw9 (t_gatherHops0 l D cI cJ _ (ixf [0, 1, 2, 3, 4, 5, 6, 7, 8, 9, 10, 11, 12, 13, 14, 15, 16, 17, 18, 19, 20, 21, 22, 23, 24, 25, 26, 27, 28, 29, 30, 31, 32, 33, 34, 35, 36, 37, 38, 39, 40, 41, 42, 43, 44, 45, 46, 47, 48, 49, 50, 51, 52, 53, 54, 55, 56, 57, 58, 59, 60, 61, 62, 63, 64, 65, 66, 67, 68, 69, 70, 71, 72, 73, 74, 75, 76, 77, 78, 79, 80, 81, 82, 83, 84, 85, 86, 87] mr) (ixf [0, 1, 2, 3, 4, 5, 6, 7, 8, 9, 10, 11, 12, 13, 14, 15, 16, 17, 18, 19, 20, 21, 22, 23, 24, 25, 26, 27, 28, 29, 30, 31, 32, 33, 34, 35, 36, 37, 38, 39, 40, 41, 42, 43, 44, 45, 46, 47, 48, 49, 50, 51, 52, 53, 54, 55, 56, 57, 58, 59, 60, 61, 62, 63, 64, 65, 66, 67, 68, 69, 70, 71, 72, 73, 74, 75, 76, 77, 78, 79, 80, 81, 82, 83, 84, 85, 86, 87] (upd mi 8 nwants_7)) (ixf [0, 1, 2, 3, 4, 5, 6, 7, 8, 9, 10, 11, 12, 13, 14, 15, 16, 17, 18, 19, 20, 21, 22, 23, 24, 25, 26, 27, 28, 29, 30, 31, 32, 33, 34, 35, 36, 37, 38, 39, 40, 41, 42, 43, 44, 45, 46, 47, 48, 49, 50, 51, 52, 53, 54, 55, 56, 57, 58, 59, 60, 61, 62, 63, 64, 65, 66, 67, 68, 69, 70, 71, 72, 73, 74, 75, 76, 77, 78, 79, 80, 81, 82, 83, 84, 85, 86, 87] (va_up mf 7 gwanted_8)) (ixf [0, 1, 2, 3, 4, 5, 6, 7, 8, 9, 10, 11, 12, 13, 14, 15, 16, 17, 18, 19, 20, 21, 22, 23, 24, 25, 26, 27, 28, 29, 30, 31, 32, 33, 34, 35, 36, 37, 38, 39, 40, 41, 42, 43, 44, 45, 46, 47, 48, 49, 50, 51, 52, 53, 54, 55, 56, 57, 58, 59, 60, 61, 62, 63, 64, 65, 66, 67, 68, 69, 70, 71, 72, 73, 74, 75, 76, 77, 78, 79, 80, 81, 82, 83, 84, 85, 86, 87] mg) (by show 0 ≤ (mi 40).toInt ∧ (mi 40).toInt ≤ 10; omega) (by show 0 ≤ (mi 48).toInt ∧ (mi 48).toInt ≤ 40; omega) (by show 0 ≤ (mi 57).toInt ∧ (mi 57).toInt ≤ 10; omega) a_p_from a_p_to) (gdV q_1201 q_1203 q_32 q_170 q_1204) hdV_X6_gatherHops ⟨rfl, rfl⟩ ⟨(Nat.le_of_ble_eq_true rfl), (Nat.le_of_ble_eq_true rfl)⟩ ⟨(Nat.le_of_ble_eq_true rfl), (Nat.le_of_ble_eq_true rfl)⟩ xT_b xT_at 0 6 rfl rfl rfl [0, 1, 2, 3, 4, 5, 6, 7, 8, 9, 10, 11, 12, 13, 14, 15, 16, 17, 18, 19, 20, 21, 22, 23, 24, 25, 26, 27, 28, 29, 30, 31, 32, 33, 34, 35, 36, 37, 38, 39, 40, 41, 42, 43, 44, 45, 46, 47, 48, 49, 50, 51, 52, 53, 54, 55, 56] rfl (by decide) rfl hl3.1 rfl (Nat.le_of_ble_eq_true rfl) dX6_search_8) (fun u_13 H1 locs hp hw15 => ?_)
  obtain ⟨ghops_16, gpmeasured_17, gpmeasuredIn_18⟩ := u_13
  generalize H1 = H at hw15 ⊢
  have hw19 : WD D A s.heap (WZ_PV0 cI cJ mr (upd mi 8 nwants_7) (va_up (va_up (va_up (va_up mf 6 ghops_16) 7 gwanted_8) 49 gpmeasured_17) 50 gpmeasuredIn_18) mg) H locs := hw15
  refine lv_aload_n (pc := 11) E.1 E.2.1 dX6_search_11 rfl (lv_at hl3 1 rfl) ?_
  refine x_get (pc := 12) (T := TX10) (N := 17) (ci := 10) (v := .ref (mr 34)) E hw19 inX10 7 1 q_462 rfl rfl (by decide) rfl rfl dX6_search_12 ?_
  refine x_get (pc := 15) (T := TX1) (N := 9) (ci := 1) (v := .int (mi 40)) E hw19 inX1 19 5 q_280 rfl rfl (by decide) rfl rfl dX6_search_15 ?_
  refine lv_istore_n (pc := 18) (lv' := [(3, .int (mi 40)), (0, .ref (mr 0)), (1, .ref (mr 11)), (2, .int z_n)]) E.1 E.2.1 dX6_search_18 rfl hl3 (by decide) rfl (fun ls hl20 => ?_)
  refine lv_iconst (pc := 19) (v := 1) E.1 E.2.1 dX6_search_19 (by decide +kernel) ?_
  refine lv_aload_n (pc := 20) E.1 E.2.1 dX6_search_20 rfl (lv_at hl20 1 rfl) ?_
  refine x_get (pc := 21) (T := TX6) (N := 10) (ci := 6) (v := .int nwants_7) E hw19 inX6 0 7 q_1169 rfl rfl (by decide) rfl rfl dX6_search_21 ?_
  refine lv_ishl (pc := 24) E.1 E.2.1 dX6_search_24 ?_
  refine lv_topi (fun v_21 ev_21 => ?_)
  have hb1v_21 : 1 ≤ v_21.toInt ∧ v_21.toInt ≤ 1024 := by rw [ev_21]; exact shl10 (by omega)
  refine lv_istore (pc := 25) (lv' := [(4, .int v_21), (3, .int (mi 40)), (0, .ref (mr 0)), (1, .ref (mr 11)), (2, .int z_n)]) E.1 E.2.1 dX6_search_25 hl20 (by decide) rfl (fun ls hl22 => ?_)
  refine lv_iconst (pc := 27) (v := 0) E.1 E.2.1 dX6_search_27 (by decide +kernel) ?_
  refine lv_istore (pc := 28) (lv' := [(5, .int 0), (4, .int v_21), (3, .int (mi 40)), (0, .ref (mr 0)), (1, .ref (mr 11)), (2, .int z_n)]) E.1 E.2.1 dX6_search_28 hl22 (by decide) rfl (fun ls hl23 => ?_)
  have loop_24 : ∀ (k : Nat) (x_25 : Int32) (g_26 : Nat → Int64) (H : Heap) (locs : List Loc) (ls : Array Slot), (0 ≤ x_25.toInt) ∧ (x_25.toInt ≤ 10240) → 10240 - x_25.toInt < (k : Int) → WD D A s.heap (WZ_PV0 cI cJ mr (upd mi 8 nwants_7) (va_up (va_up (va_up (va_up mf 6 ghops_16) 7 gwanted_8) 49 gpmeasured_17) 50 gpmeasuredIn_18) (va_up mg 4 g_26)) H locs → lv_has ls 8 [(5, .int x_25), (4, .int v_21), (3, .int (mi 40)), (0, .ref (mr 0)), (1, .ref (mr 11)), (2, .int z_n)] → W p l e ({ frames := 5, cells := 0, slots := 0, locals := 139 } : Room) s m ([.ref (mr 0), .ref (mr 11), .int z_n] : List Value).toArray below meth c H locs 0 0 (MQ below (va_Qv (fun (u : Int32 × (Nat → Int32) × (Nat → Int32) × (Nat → Int64) × (Nat → Int64) × (Nat → Int32) × (Nat → Int32) × Int32 × (Nat → Int64) × Int32 × (Nat → Int32) × (Nat → Int32)) => (u.2.2.2.2.2.2.2.2.2.1.toInt = z_n.toInt) ∧ (0 ≤ u.1.toInt) ∧ (u.1.toInt ≤ 10) ∧ (s1k u.2.2.2.2.2.1) ∧ (s1k u.2.2.2.2.2.2.1) ∧ (w9 u.2.1)) (fun u => QW D cI cJ A ((fun (u : Int32 × (Nat → Int32) × (Nat → Int32) × (Nat → Int64) × (Nat → Int64) × (Nat → Int32) × (Nat → Int32) × Int32 × (Nat → Int64) × Int32 × (Nat → Int32) × (Nat → Int32)) => (WZ_PV0 cI cJ mr (upd (upd (upd mi 8 u.1) 2 u.2.2.2.2.2.2.2.1) 1 u.2.2.2.2.2.2.2.2.2.1) (va_up (va_up (va_up (va_up (va_up (va_up mf 7 u.2.1) 6 u.2.2.1) 9 u.2.2.2.2.2.1) 10 u.2.2.2.2.2.2.1) 49 u.2.2.2.2.2.2.2.2.2.2.1) 50 u.2.2.2.2.2.2.2.2.2.2.2) (va_up (va_up (va_up mg 4 u.2.2.2.1) 5 u.2.2.2.2.1) 3 u.2.2.2.2.2.2.2.2.1))) u)) A) ([.ref (mr 0), .ref (mr 11), .int z_n] : List Value).toArray s 0 0 A) (F0 m 30 ls []) := by
    intro k
    induction k with
    | zero =>
      intro x_25 g_26 _ _ _ hinv hm
      obtain ⟨hi_26_0, hi_26_1⟩ := hinv
      exact absurd hm (by omega)
    | succ k ih_27 =>
      intro x_25 g_26 H locs ls hinv hm hw28 hl29
      obtain ⟨hi_26_0, hi_26_1⟩ := hinv
      refine lv_iload (pc := 30) E.1 E.2.1 dX6_search_30 (lv_at hl29 0 rfl) ?_
      refine lv_iload_n (pc := 32) E.1 E.2.1 dX6_search_32 rfl (lv_at hl29 2 rfl) ?_
      refine lv_iload (pc := 33) E.1 E.2.1 dX6_search_33 (lv_at hl29 1 rfl) ?_
      refine lv_imul (pc := 35) E.1 E.2.1 dX6_search_35 ?_
      refine lv_topi (fun v_30 ev_30 => ?_)
      have hbv_30 : 0 ≤ v_30.toInt ∧ v_30.toInt ≤ 10240 := by rw [ev_30]; exact mulB (a := 10) (b := 1024) (by omega) (by omega) (by decide)
      refine lv_icmp_ge (pc := 36) (tgt := 65) E.1 E.2.1 dX6_search_36 (by decide) (fun c_31 => ?_) (fun c_31 => ?_)
      · skip
        have hc_31 := leE (a := v_30.toInt) (b := x_25.toInt) rfl rfl c_31
        refine lv_aload_n (pc := 65) E.1 E.2.1 dX6_search_65 rfl (lv_at hl29 4 rfl) ?_
        refine x_get (pc := 66) (T := TX10) (N := 17) (ci := 10) (v := .ref (mr 34)) E hw28 inX10 7 1 q_462 rfl rfl (by decide) rfl rfl dX6_search_66 ?_
        refine lv_aload_n (pc := 69) E.1 E.2.1 dX6_search_69 rfl (lv_at hl29 4 rfl) ?_
        refine x_get (pc := 70) (T := TX10) (N := 17) (ci := 10) (v := .ref (mr 21)) E hw28 inX10 7 0 q_459 rfl rfl (by decide) rfl rfl dX6_search_70 ?_
        refine x_get (pc := 73) (T := TX4) (N := 12) (ci := 4) (v := .int (mi 28)) E hw28 inX4 13 6 q_214 rfl rfl (by decide) rfl rfl dX6_search_73 ?_
        refine cq_i (pc := 76) (ws' := (fun (u : Unit) => (WZ_PV0 cI cJ mr (upd mi 8 nwants_7) (va_up (va_up (va_up (va_up mf 6 ghops_16) 7 gwanted_8) 49 gpmeasured_17) 50 gpmeasuredIn_18) (va_up mg 4 g_26)))) hw28 [19, 20, 21, 22, 23, 24, 25, 26] [0, 1, 2, 3, 4, 5, 6, 7, 8, 9, 10, 11, 12, 13, 14, 15, 16, 17, 18, 27, 28, 29, 30, 31, 32, 33, 34, 35, 36, 37, 38, 39, 40, 41, 42, 43, 44, 45, 46, 47, 48, 49, 50, 51, 52, 53, 54, 55, 56] [0, 1, 2, 3, 4, 5, 6, 7, 8, 9, 10, 11, 12, 13, 14, 15, 16, 17, 18, 49, 50, 51, 52, 53, 54, 55, 56, 19, 20, 21, 22, 23, 24, 25, 26, 27, 28, 29, 30, 31, 32, 33, 34, 35, 36, 37, 38, 39, 40, 41, 42, 43, 44, 45, 46, 47, 48] rfl rfl (by decide) (by decide) (fun _ => rfl) (by decide) (rn_V (As := [.int (mi 28)]) (rest := []) E hw28 (t_has0 l D cI cJ _ (ixf [34, 35, 36, 37, 38, 39, 40, 41, 42] mr) (ixf [34, 35, 36, 37, 38, 39, 40, 41, 42] (upd mi 8 nwants_7)) (ixf [34, 35, 36, 37, 38, 39, 40, 41, 42] (va_up (va_up (va_up (va_up mf 6 ghops_16) 7 gwanted_8) 49 gpmeasured_17) 50 gpmeasuredIn_18)) (ixf [34, 35, 36, 37, 38, 39, 40, 41, 42] (va_up mg 4 g_26)) (mi 28)) (gdV q_1207 q_675 q_676 q_154 q_677) hdV_X1_has ⟨rfl, rfl⟩ ⟨(Nat.le_of_ble_eq_true rfl), (Nat.le_of_ble_eq_true rfl)⟩ ⟨(Nat.le_of_ble_eq_true rfl), (Nat.le_of_ble_eq_true rfl)⟩ xT_b xT_at 19 1 rfl rfl rfl [19, 20, 21, 22, 23, 24, 25, 26] rfl (by decide) rfl hl29.1 rfl (Nat.le_of_ble_eq_true rfl) dX6_search_76) (fun r_33 u_32 H1 locs hp hw34 => ?_)
        generalize H1 = H at hw34 ⊢
        have hw35 : WD D A s.heap (WZ_PV0 cI cJ mr (upd mi 8 nwants_7) (va_up (va_up (va_up (va_up mf 6 ghops_16) 7 gwanted_8) 49 gpmeasured_17) 50 gpmeasuredIn_18) (va_up mg 4 g_26)) H locs := hw34
        have hp_36 := hp
        rcases hp_36 with ⟨rfl, ha_37, ha_38, ha_39⟩ | rfl
        · skip
          have ha_37 : 0 ≤ (mi 28).toInt := ha_37
          have ha_38 : (mi 28).toInt + 1 ≤ (mi 40).toInt := ha_38
          have ha_39 : (mi 28).toInt ≤ 9 := ha_39
          refine lv_if_eq (pc := 79) (tgt := 95) E.1 E.2.1 dX6_search_79 (by decide) (fun c_40 => absurd c_40 (mneE (a := 1) (b := 0) (by decide +kernel) (by decide +kernel) (by omega))) (fun _ => ?_)
          refine lv_aload_n (pc := 82) E.1 E.2.1 dX6_search_82 rfl (lv_at hl29 3 rfl) ?_
          refine x_get (pc := 83) (T := TX6) (N := 10) (ci := 6) (v := .ref (mr 4)) E hw35 inX6 0 3 q_1165 rfl rfl (by decide) rfl rfl dX6_search_83 ?_
          refine lv_aload_n (pc := 86) E.1 E.2.1 dX6_search_86 rfl (lv_at hl29 4 rfl) ?_
          refine x_get (pc := 87) (T := TX10) (N := 17) (ci := 10) (v := .ref (mr 21)) E hw35 inX10 7 0 q_459 rfl rfl (by decide) rfl rfl dX6_search_87 ?_
          refine x_get (pc := 90) (T := TX4) (N := 12) (ci := 4) (v := .int (mi 28)) E hw35 inX4 13 6 q_214 rfl rfl (by decide) rfl rfl dX6_search_90 ?_
          refine lv_lconst (pc := 93) (v := 0) E.1 E.2.1 dX6_search_93 (by decide +kernel) ?_
          refine x_lastO (pc := 94) (f := g_26) (wf := fun g => (WZ_PV0 cI cJ mr (upd mi 8 nwants_7) (va_up (va_up (va_up (va_up mf 6 ghops_16) 7 gwanted_8) 49 gpmeasured_17) 50 gpmeasuredIn_18) (va_up mg 4 g))) E hw35 1 rfl (inbE (a := (mi 28).toInt) rfl (by omega)) (fun _ => rfl) dX6_search_94 (fun g_41 H locs hw42 => ?_)
          refine lv_iload_n (pc := 95) E.1 E.2.1 dX6_search_95 rfl (lv_at hl29 5 rfl) ?_
          refine lv_iconst (pc := 96) (v := 1) E.1 E.2.1 dX6_search_96 (by decide +kernel) ?_
          refine lv_isub (pc := 97) E.1 E.2.1 dX6_search_97 ?_
          refine lv_topi (fun v_43 ev_43 => ?_)
          have hv_43 : v_43.toInt = z_n.toInt - 1 := by rw [ev_43]; exact subE rfl (by decide +kernel) (by omega)
          refine cq_l (pc := 98) (ws' := (fun (u : Unit) => (WZ_PV0 cI cJ mr (upd mi 8 nwants_7) (va_up (va_up (va_up (va_up mf 6 ghops_16) 7 gwanted_8) 49 gpmeasured_17) 50 gpmeasuredIn_18) (va_up mg 4 g_41)))) hw42 [] [0, 1, 2, 3, 4, 5, 6, 7, 8, 9, 10, 11, 12, 13, 14, 15, 16, 17, 18, 19, 20, 21, 22, 23, 24, 25, 26, 27, 28, 29, 30, 31, 32, 33, 34, 35, 36, 37, 38, 39, 40, 41, 42, 43, 44, 45, 46, 47, 48, 49, 50, 51, 52, 53, 54, 55, 56] [0, 1, 2, 3, 4, 5, 6, 7, 8, 9, 10, 11, 12, 13, 14, 15, 16, 17, 18, 19, 20, 21, 22, 23, 24, 25, 26, 27, 28, 29, 30, 31, 32, 33, 34, 35, 36, 37, 38, 39, 40, 41, 42, 43, 44, 45, 46, 47, 48, 49, 50, 51, 52, 53, 54, 55, 56] rfl rfl (by decide) (by decide) (fun _ => rfl) (by decide) (rn_S (As := [.int v_43]) (rest := []) E hw42 (t_power l D cI cJ _ (ixf [] mr) (ixf [] (upd mi 8 nwants_7)) (ixf [] (va_up (va_up (va_up (va_up mf 6 ghops_16) 7 gwanted_8) 49 gpmeasured_17) 50 gpmeasuredIn_18)) (ixf [] (va_up mg 4 g_41)) v_43 (by show 0 ≤ v_43.toInt ∧ v_43.toInt ≤ 9; omega)) (gdS q_1208 q_1209 q_170 q_1210) hdV_X6_power ⟨rfl, rfl⟩ ⟨(Nat.le_of_ble_eq_true rfl), (Nat.le_of_ble_eq_true rfl)⟩ ⟨(Nat.le_of_ble_eq_true rfl), (Nat.le_of_ble_eq_true rfl)⟩ xT_b xT_at [] rfl (by decide) rfl hl29.1 rfl (Nat.le_of_ble_eq_true rfl) dX6_search_98) (fun r_45 u_44 H1 locs hp hw46 => ?_)
          generalize H1 = H at hw46 ⊢
          have hw47 : WD D A s.heap (WZ_PV0 cI cJ mr (upd mi 8 nwants_7) (va_up (va_up (va_up (va_up mf 6 ghops_16) 7 gwanted_8) 49 gpmeasured_17) 50 gpmeasuredIn_18) (va_up mg 4 g_41)) H locs := hw46
          have hp_48 := hp
          have hp_48 : ¬ r_45 = 0 := hp_48
          refine lv_lstore (pc := 101) (lv' := [(5, .long r_45), (4, .int v_21), (3, .int (mi 40)), (0, .ref (mr 0)), (1, .ref (mr 11)), (2, .int z_n)]) E.1 E.2.1 dX6_search_101 hl29 (by decide) rfl (fun ls hl49 => ?_)
          refine lv_iconst (pc := 103) (v := 0) E.1 E.2.1 dX6_search_103 (by decide +kernel) ?_
          refine lv_istore (pc := 104) (lv' := [(7, .int 0), (5, .long r_45), (4, .int v_21), (3, .int (mi 40)), (0, .ref (mr 0)), (1, .ref (mr 11)), (2, .int z_n)]) E.1 E.2.1 dX6_search_104 hl49 (by decide) rfl (fun ls hl50 => ?_)
          have loop_51 : ∀ (k : Nat) (x_52 : Int32) (w_53 : Int64) (g_54 : Nat → Int64) (g_55 : Nat → Int64) (g_56 : Nat → Int32) (g_57 : Nat → Int32) (H : Heap) (locs : List Loc) (ls : Array Slot), (0 ≤ x_52.toInt) ∧ (x_52.toInt ≤ z_n.toInt) ∧ s1k g_56 ∧ s1k g_57 → z_n.toInt - x_52.toInt < (k : Int) → WD D A s.heap (WZ_PV0 cI cJ mr (upd mi 8 nwants_7) (va_up (va_up (va_up (va_up (va_up (va_up mf 6 ghops_16) 7 gwanted_8) 9 g_56) 10 g_57) 49 gpmeasured_17) 50 gpmeasuredIn_18) (va_up (va_up mg 4 g_54) 5 g_55)) H locs → lv_has ls 8 [(7, .int x_52), (5, .long w_53), (4, .int v_21), (3, .int (mi 40)), (0, .ref (mr 0)), (1, .ref (mr 11)), (2, .int z_n)] → W p l e ({ frames := 5, cells := 0, slots := 0, locals := 139 } : Room) s m ([.ref (mr 0), .ref (mr 11), .int z_n] : List Value).toArray below meth c H locs 0 0 (MQ below (va_Qv (fun (u : Int32 × (Nat → Int32) × (Nat → Int32) × (Nat → Int64) × (Nat → Int64) × (Nat → Int32) × (Nat → Int32) × Int32 × (Nat → Int64) × Int32 × (Nat → Int32) × (Nat → Int32)) => (u.2.2.2.2.2.2.2.2.2.1.toInt = z_n.toInt) ∧ (0 ≤ u.1.toInt) ∧ (u.1.toInt ≤ 10) ∧ (s1k u.2.2.2.2.2.1) ∧ (s1k u.2.2.2.2.2.2.1) ∧ (w9 u.2.1)) (fun u => QW D cI cJ A ((fun (u : Int32 × (Nat → Int32) × (Nat → Int32) × (Nat → Int64) × (Nat → Int64) × (Nat → Int32) × (Nat → Int32) × Int32 × (Nat → Int64) × Int32 × (Nat → Int32) × (Nat → Int32)) => (WZ_PV0 cI cJ mr (upd (upd (upd mi 8 u.1) 2 u.2.2.2.2.2.2.2.1) 1 u.2.2.2.2.2.2.2.2.2.1) (va_up (va_up (va_up (va_up (va_up (va_up mf 7 u.2.1) 6 u.2.2.1) 9 u.2.2.2.2.2.1) 10 u.2.2.2.2.2.2.1) 49 u.2.2.2.2.2.2.2.2.2.2.1) 50 u.2.2.2.2.2.2.2.2.2.2.2) (va_up (va_up (va_up mg 4 u.2.2.2.1) 5 u.2.2.2.2.1) 3 u.2.2.2.2.2.2.2.2.1))) u)) A) ([.ref (mr 0), .ref (mr 11), .int z_n] : List Value).toArray s 0 0 A) (F0 m 106 ls []) := by
            intro k
            induction k with
            | zero =>
              intro x_52 w_53 g_54 g_55 g_56 g_57 _ _ _ hinv hm
              obtain ⟨hi_57_0, hi_57_1, hi_57_2, hi_57_3⟩ := hinv
              exact absurd hm (by omega)
            | succ k ih_58 =>
              intro x_52 w_53 g_54 g_55 g_56 g_57 H locs ls hinv hm hw59 hl60
              obtain ⟨hi_57_0, hi_57_1, hi_57_2, hi_57_3⟩ := hinv
              refine lv_iload (pc := 106) E.1 E.2.1 dX6_search_106 (lv_at hl60 0 rfl) ?_
              refine lv_iload_n (pc := 108) E.1 E.2.1 dX6_search_108 rfl (lv_at hl60 6 rfl) ?_
              refine lv_icmp_ge (pc := 109) (tgt := 155) E.1 E.2.1 dX6_search_109 (by decide) (fun c_61 => ?_) (fun c_61 => ?_)
              · skip
                have hc_61 := leE (a := z_n.toInt) (b := x_52.toInt) rfl rfl c_61
                refine lv_aload_n (pc := 155) E.1 E.2.1 dX6_search_155 rfl (lv_at hl60 4 rfl) ?_
                refine lv_aload_n (pc := 156) E.1 E.2.1 dX6_search_156 rfl (lv_at hl60 5 rfl) ?_
                refine lv_iload_n (pc := 157) E.1 E.2.1 dX6_search_157 rfl (lv_at hl60 3 rfl) ?_
                refine lv_iload (pc := 158) E.1 E.2.1 dX6_search_158 (lv_at hl60 2 rfl) ?_
                refine cq_v (pc := 160) (ws' := (fun (u : Int32 × (Nat → Int64)) => (WZ_PV0 cI cJ mr (upd (upd mi 2 u.1) 8 nwants_7) (va_up (va_up (va_up (va_up (va_up (va_up mf 6 ghops_16) 7 gwanted_8) 9 g_56) 10 g_57) 49 gpmeasured_17) 50 gpmeasuredIn_18) (va_up (va_up (va_up mg 3 u.2) 4 g_54) 5 g_55)))) hw59 [0, 1, 2, 3, 4, 5, 6, 7, 8, 9, 10, 11, 12, 13, 14, 15, 16, 17, 18, 19, 20, 21, 22, 23, 24, 25, 26, 27, 28, 29, 30, 31, 32, 33, 34, 35, 36, 37, 38, 39, 40, 41, 42, 43, 44, 45, 46, 47, 48, 49, 50, 51, 52, 53, 54, 55, 56] [] [0, 1, 2, 3, 4, 5, 6, 7, 8, 9, 10, 11, 12, 13, 14, 15, 16, 17, 18, 19, 20, 21, 22, 23, 24, 25, 26, 27, 28, 29, 30, 31, 32, 33, 34, 35, 36, 37, 38, 39, 40, 41, 42, 43, 44, 45, 46, 47, 48, 49, 50, 51, 52, 53, 54, 55, 56] rfl rfl (by decide) (by decide) (fun _ => rfl) (by decide) (rn_V (As := [.ref (mr 11), .int (mi 40), .int v_21]) (rest := []) E hw59 (t_choose0 l D cI cJ _ (ixf [0, 1, 2, 3, 4, 5, 6, 7, 8, 9, 10, 11, 12, 13, 14, 15, 16, 17, 18, 19, 20, 21, 22, 23, 24, 25, 26, 27, 28, 29, 30, 31, 32, 33, 34, 35, 36, 37, 38, 39, 40, 41, 42, 43, 44, 45, 46, 47, 48, 49, 50, 51, 52, 53, 54, 55, 56, 57, 58, 59, 60, 61, 62, 63, 64, 65, 66, 67, 68, 69, 70, 71, 72, 73, 74, 75, 76, 77, 78, 79, 80, 81, 82, 83, 84, 85, 86, 87] mr) (ixf [0, 1, 2, 3, 4, 5, 6, 7, 8, 9, 10, 11, 12, 13, 14, 15, 16, 17, 18, 19, 20, 21, 22, 23, 24, 25, 26, 27, 28, 29, 30, 31, 32, 33, 34, 35, 36, 37, 38, 39, 40, 41, 42, 43, 44, 45, 46, 47, 48, 49, 50, 51, 52, 53, 54, 55, 56, 57, 58, 59, 60, 61, 62, 63, 64, 65, 66, 67, 68, 69, 70, 71, 72, 73, 74, 75, 76, 77, 78, 79, 80, 81, 82, 83, 84, 85, 86, 87] (upd mi 8 nwants_7)) (ixf [0, 1, 2, 3, 4, 5, 6, 7, 8, 9, 10, 11, 12, 13, 14, 15, 16, 17, 18, 19, 20, 21, 22, 23, 24, 25, 26, 27, 28, 29, 30, 31, 32, 33, 34, 35, 36, 37, 38, 39, 40, 41, 42, 43, 44, 45, 46, 47, 48, 49, 50, 51, 52, 53, 54, 55, 56, 57, 58, 59, 60, 61, 62, 63, 64, 65, 66, 67, 68, 69, 70, 71, 72, 73, 74, 75, 76, 77, 78, 79, 80, 81, 82, 83, 84, 85, 86, 87] (va_up (va_up (va_up (va_up (va_up (va_up mf 6 ghops_16) 7 gwanted_8) 9 g_56) 10 g_57) 49 gpmeasured_17) 50 gpmeasuredIn_18)) (ixf [0, 1, 2, 3, 4, 5, 6, 7, 8, 9, 10, 11, 12, 13, 14, 15, 16, 17, 18, 19, 20, 21, 22, 23, 24, 25, 26, 27, 28, 29, 30, 31, 32, 33, 34, 35, 36, 37, 38, 39, 40, 41, 42, 43, 44, 45, 46, 47, 48, 49, 50, 51, 52, 53, 54, 55, 56, 57, 58, 59, 60, 61, 62, 63, 64, 65, 66, 67, 68, 69, 70, 71, 72, 73, 74, 75, 76, 77, 78, 79, 80, 81, 82, 83, 84, 85, 86, 87] (va_up (va_up mg 4 g_54) 5 g_55)) (mi 40) v_21 (by show 0 ≤ (mi 40).toInt ∧ (mi 40).toInt ≤ 10; omega) (by show 0 ≤ (mi 48).toInt ∧ (mi 48).toInt ≤ 40; omega) (by show 0 ≤ (mi 57).toInt ∧ (mi 57).toInt ≤ 10; omega) (by show 0 ≤ nwants_7.toInt ∧ nwants_7.toInt ≤ 10; omega) (by show 0 ≤ (mi 40).toInt ∧ (mi 40).toInt ≤ 10; omega) (by show 1 ≤ v_21.toInt ∧ v_21.toInt ≤ 1024; omega) hp_12) (gdV q_1230 q_1232 q_37 q_170 q_1233) hdV_X6_choose ⟨rfl, rfl⟩ ⟨(Nat.le_of_ble_eq_true rfl), (Nat.le_of_ble_eq_true rfl)⟩ ⟨(Nat.le_of_ble_eq_true rfl), (Nat.le_of_ble_eq_true rfl)⟩ xT_b xT_at 0 6 rfl rfl rfl [0, 1, 2, 3, 4, 5, 6, 7, 8, 9, 10, 11, 12, 13, 14, 15, 16, 17, 18, 19, 20, 21, 22, 23, 24, 25, 26, 27, 28, 29, 30, 31, 32, 33, 34, 35, 36, 37, 38, 39, 40, 41, 42, 43, 44, 45, 46, 47, 48, 49, 50, 51, 52, 53, 54, 55, 56] rfl (by decide) rfl hl60.1 rfl (Nat.le_of_ble_eq_true rfl) dX6_search_160) (fun u_62 H1 locs hp hw64 => ?_)
                obtain ⟨nmostWorth_65, gleastCost_66⟩ := u_62
                generalize H1 = H at hw64 ⊢
                have hw67 : WD D A s.heap (WZ_PV0 cI cJ mr (upd (upd mi 2 nmostWorth_65) 8 nwants_7) (va_up (va_up (va_up (va_up (va_up (va_up mf 6 ghops_16) 7 gwanted_8) 9 g_56) 10 g_57) 49 gpmeasured_17) 50 gpmeasuredIn_18) (va_up (va_up (va_up mg 3 gleastCost_66) 4 g_54) 5 g_55)) H locs := hw64
                refine lv_aload_n (pc := 163) E.1 E.2.1 dX6_search_163 rfl (lv_at hl60 4 rfl) ?_
                refine lv_iload_n (pc := 164) E.1 E.2.1 dX6_search_164 rfl (lv_at hl60 6 rfl) ?_
                refine x_put (pc := 165) (T := TX6) (N := 10) (ci := 6) (ws' := (WZ_PV0 cI cJ mr (upd (upd (upd mi 1 z_n) 2 nmostWorth_65) 8 nwants_7) (va_up (va_up (va_up (va_up (va_up (va_up mf 6 ghops_16) 7 gwanted_8) 9 g_56) 10 g_57) 49 gpmeasured_17) 50 gpmeasuredIn_18) (va_up (va_up (va_up mg 3 gleastCost_66) 4 g_54) 5 g_55))) E hw67 inX6 tyX6_ok nmX6 0 0 q_1160 rfl rfl (by decide) rfl rfl rfl rfl (Nat.le_of_ble_eq_true rfl) rfl dX6_search_165 (fun H locs hw68 => ?_)
                exact em_v (w1 := (fun (u : Int32 × (Nat → Int32) × (Nat → Int32) × (Nat → Int64) × (Nat → Int64) × (Nat → Int32) × (Nat → Int32) × Int32 × (Nat → Int64) × Int32 × (Nat → Int32) × (Nat → Int32)) => (WZ_PV0 cI cJ mr (upd (upd (upd mi 8 u.1) 2 u.2.2.2.2.2.2.2.1) 1 u.2.2.2.2.2.2.2.2.2.1) (va_up (va_up (va_up (va_up (va_up (va_up mf 7 u.2.1) 6 u.2.2.1) 9 u.2.2.2.2.2.1) 10 u.2.2.2.2.2.2.1) 49 u.2.2.2.2.2.2.2.2.2.2.1) 50 u.2.2.2.2.2.2.2.2.2.2.2) (va_up (va_up (va_up mg 4 u.2.2.2.1) 5 u.2.2.2.2.1) 3 u.2.2.2.2.2.2.2.2.1)))) E hr hlk (nwants_7, gwanted_8, ghops_16, g_54, g_55, g_56, g_57, nmostWorth_65, gleastCost_66, z_n, gpmeasured_17, gpmeasuredIn_18) hw68 ⟨(by show z_n.toInt = z_n.toInt; omega), (by show 0 ≤ nwants_7.toInt; omega), (by show nwants_7.toInt ≤ 10; omega), hi_57_2, hi_57_3, hp_12⟩ (Nat.le_of_ble_eq_true rfl) (Nat.le_of_ble_eq_true rfl) dX6_search_168
              · skip
                have hc_61 := nleE (a := z_n.toInt) (b := x_52.toInt) rfl rfl c_61
                refine lv_aload_n (pc := 112) E.1 E.2.1 dX6_search_112 rfl (lv_at hl60 4 rfl) ?_
                refine lv_aload_n (pc := 113) E.1 E.2.1 dX6_search_113 rfl (lv_at hl60 5 rfl) ?_
                refine lv_iload (pc := 114) E.1 E.2.1 dX6_search_114 (lv_at hl60 0 rfl) ?_
                refine cq_v (pc := 116) (ws' := (fun (u : (Nat → Int32) × (Nat → Int32)) => (WZ_PV0 cI cJ mr (upd mi 8 nwants_7) (va_up (va_up (va_up (va_up (va_up (va_up mf 6 ghops_16) 7 gwanted_8) 9 u.1) 10 u.2) 49 gpmeasured_17) 50 gpmeasuredIn_18) (va_up (va_up mg 4 g_54) 5 g_55)))) hw59 [0, 1, 2, 3, 4, 5, 6, 7, 8, 9, 10, 11, 12, 13, 14, 15, 16, 17, 18, 19, 20, 21, 22, 23, 24, 25, 26, 27, 28, 29, 30, 31, 32, 33, 34, 35, 36, 37, 38, 39, 40, 41, 42, 43, 44, 45, 46, 47, 48, 49, 50, 51, 52, 53, 54, 55, 56] [] [0, 1, 2, 3, 4, 5, 6, 7, 8, 9, 10, 11, 12, 13, 14, 15, 16, 17, 18, 19, 20, 21, 22, 23, 24, 25, 26, 27, 28, 29, 30, 31, 32, 33, 34, 35, 36, 37, 38, 39, 40, 41, 42, 43, 44, 45, 46, 47, 48, 49, 50, 51, 52, 53, 54, 55, 56] rfl rfl (by decide) (by decide) (fun _ => rfl) (by decide) (rn_V (As := [.ref (mr 11), .int x_52]) (rest := []) E hw59 (t_gatherServed0 l D cI cJ _ (ixf [0, 1, 2, 3, 4, 5, 6, 7, 8, 9, 10, 11, 12, 13, 14, 15, 16, 17, 18, 19, 20, 21, 22, 23, 24, 25, 26, 27, 28, 29, 30, 31, 32, 33, 34, 35, 36, 37, 38, 39, 40, 41, 42, 43, 44, 45, 46, 47, 48, 49, 50, 51, 52, 53, 54, 55, 56, 57, 58, 59, 60, 61, 62, 63, 64, 65, 66, 67, 68, 69, 70, 71, 72, 73, 74, 75, 76, 77, 78, 79, 80, 81, 82, 83, 84, 85, 86, 87] mr) (ixf [0, 1, 2, 3, 4, 5, 6, 7, 8, 9, 10, 11, 12, 13, 14, 15, 16, 17, 18, 19, 20, 21, 22, 23, 24, 25, 26, 27, 28, 29, 30, 31, 32, 33, 34, 35, 36, 37, 38, 39, 40, 41, 42, 43, 44, 45, 46, 47, 48, 49, 50, 51, 52, 53, 54, 55, 56, 57, 58, 59, 60, 61, 62, 63, 64, 65, 66, 67, 68, 69, 70, 71, 72, 73, 74, 75, 76, 77, 78, 79, 80, 81, 82, 83, 84, 85, 86, 87] (upd mi 8 nwants_7)) (ixf [0, 1, 2, 3, 4, 5, 6, 7, 8, 9, 10, 11, 12, 13, 14, 15, 16, 17, 18, 19, 20, 21, 22, 23, 24, 25, 26, 27, 28, 29, 30, 31, 32, 33, 34, 35, 36, 37, 38, 39, 40, 41, 42, 43, 44, 45, 46, 47, 48, 49, 50, 51, 52, 53, 54, 55, 56, 57, 58, 59, 60, 61, 62, 63, 64, 65, 66, 67, 68, 69, 70, 71, 72, 73, 74, 75, 76, 77, 78, 79, 80, 81, 82, 83, 84, 85, 86, 87] (va_up (va_up (va_up (va_up (va_up (va_up mf 6 ghops_16) 7 gwanted_8) 9 g_56) 10 g_57) 49 gpmeasured_17) 50 gpmeasuredIn_18)) (ixf [0, 1, 2, 3, 4, 5, 6, 7, 8, 9, 10, 11, 12, 13, 14, 15, 16, 17, 18, 19, 20, 21, 22, 23, 24, 25, 26, 27, 28, 29, 30, 31, 32, 33, 34, 35, 36, 37, 38, 39, 40, 41, 42, 43, 44, 45, 46, 47, 48, 49, 50, 51, 52, 53, 54, 55, 56, 57, 58, 59, 60, 61, 62, 63, 64, 65, 66, 67, 68, 69, 70, 71, 72, 73, 74, 75, 76, 77, 78, 79, 80, 81, 82, 83, 84, 85, 86, 87] (va_up (va_up mg 4 g_54) 5 g_55)) x_52 (by show 0 ≤ (mi 40).toInt ∧ (mi 40).toInt ≤ 10; omega) (by show 0 ≤ (mi 48).toInt ∧ (mi 48).toInt ≤ 40; omega) (by show 0 ≤ (mi 57).toInt ∧ (mi 57).toInt ≤ 10; omega) (by show 0 ≤ nwants_7.toInt ∧ nwants_7.toInt ≤ 10; omega) hi_57_2 hi_57_3 hp_12) (gdV q_1212 q_1214 q_33 q_170 q_1215) hdV_X6_gatherServed ⟨rfl, rfl⟩ ⟨(Nat.le_of_ble_eq_true rfl), (Nat.le_of_ble_eq_true rfl)⟩ ⟨(Nat.le_of_ble_eq_true rfl), (Nat.le_of_ble_eq_true rfl)⟩ xT_b xT_at 0 6 rfl rfl rfl [0, 1, 2, 3, 4, 5, 6, 7, 8, 9, 10, 11, 12, 13, 14, 15, 16, 17, 18, 19, 20, 21, 22, 23, 24, 25, 26, 27, 28, 29, 30, 31, 32, 33, 34, 35, 36, 37, 38, 39, 40, 41, 42, 43, 44, 45, 46, 47, 48, 49, 50, 51, 52, 53, 54, 55, 56] rfl (by decide) rfl hl60.1 rfl (Nat.le_of_ble_eq_true rfl) dX6_search_116) (fun u_69 H1 locs hp hw71 => ?_)
                obtain ⟨gserved_72, gwed_73⟩ := u_69
                generalize H1 = H at hw71 ⊢
                have hw74 : WD D A s.heap (WZ_PV0 cI cJ mr (upd mi 8 nwants_7) (va_up (va_up (va_up (va_up (va_up (va_up mf 6 ghops_16) 7 gwanted_8) 9 gserved_72) 10 gwed_73) 49 gpmeasured_17) 50 gpmeasuredIn_18) (va_up (va_up mg 4 g_54) 5 g_55)) H locs := hw71
                obtain ⟨hp_75, hp_76⟩ := hp
                refine lv_aload_n (pc := 119) E.1 E.2.1 dX6_search_119 rfl (lv_at hl60 4 rfl) ?_
                refine lv_iload_n (pc := 120) E.1 E.2.1 dX6_search_120 rfl (lv_at hl60 3 rfl) ?_
                refine lv_iload (pc := 121) E.1 E.2.1 dX6_search_121 (lv_at hl60 2 rfl) ?_
                refine lv_iload (pc := 123) E.1 E.2.1 dX6_search_123 (lv_at hl60 0 rfl) ?_
                refine lv_if_ne (pc := 125) (tgt := 135) E.1 E.2.1 dX6_search_125 (by decide) (fun c_77 => ?_) (fun c_77 => ?_)
                · skip
                  have hc_77 := neE (a := x_52.toInt) (b := 0) rfl (by decide +kernel) c_77
                  refine lv_null (pc := 135) E.1 E.2.1 dX6_search_135 ?_
                  refine lv_lload (pc := 136) E.1 E.2.1 dX6_search_136 (lv_at hl60 1 rfl) ?_
                  refine cq_v (pc := 138) (ws' := (fun (u : (Nat → Int64) × (Nat → Int64)) => (WZ_PV0 cI cJ mr (upd mi 8 nwants_7) (va_up (va_up (va_up (va_up (va_up (va_up mf 6 ghops_16) 7 gwanted_8) 9 gserved_72) 10 gwed_73) 49 gpmeasured_17) 50 gpmeasuredIn_18) (va_up (va_up mg 4 u.1) 5 u.2)))) hw74 [0, 1, 2, 3, 4, 5, 6] [7, 8, 9, 10, 11, 12, 13, 14, 15, 16, 17, 18, 19, 20, 21, 22, 23, 24, 25, 26, 27, 28, 29, 30, 31, 32, 33, 34, 35, 36, 37, 38, 39, 40, 41, 42, 43, 44, 45, 46, 47, 48, 49, 50, 51, 52, 53, 54, 55, 56] [50, 51, 52, 53, 54, 55, 56, 0, 1, 2, 3, 4, 5, 6, 7, 8, 9, 10, 11, 12, 13, 14, 15, 16, 17, 18, 19, 20, 21, 22, 23, 24, 25, 26, 27, 28, 29, 30, 31, 32, 33, 34, 35, 36, 37, 38, 39, 40, 41, 42, 43, 44, 45, 46, 47, 48, 49] rfl rfl (by decide) (by decide) (fun _ => rfl) (by decide) (rn_V (As := [.int (mi 40), .int v_21, .null, .long w_53]) (rest := []) E hw74 (t_spreadNight_n l D cI cJ _ (ixf [0, 1, 2, 3, 4, 5, 6, 7, 8, 9, 10] mr) (ixf [0, 1, 2, 3, 4, 5, 6, 7, 8, 9, 10] (upd mi 8 nwants_7)) (ixf [0, 1, 2, 3, 4, 5, 6, 7, 8, 9, 10] (va_up (va_up (va_up (va_up (va_up (va_up mf 6 ghops_16) 7 gwanted_8) 9 gserved_72) 10 gwed_73) 49 gpmeasured_17) 50 gpmeasuredIn_18)) (ixf [0, 1, 2, 3, 4, 5, 6, 7, 8, 9, 10] (va_up (va_up mg 4 g_54) 5 g_55)) (mi 40) v_21 w_53 (by show 0 ≤ (mi 40).toInt ∧ (mi 40).toInt ≤ 10; omega) (by show 1 ≤ v_21.toInt ∧ v_21.toInt ≤ 1024; omega) hp_75 hp_76) (gdV q_1216 q_1218 q_34 q_170 q_1219) hdV_X6_spreadNight ⟨rfl, rfl⟩ ⟨(Nat.le_of_ble_eq_true rfl), (Nat.le_of_ble_eq_true rfl)⟩ ⟨(Nat.le_of_ble_eq_true rfl), (Nat.le_of_ble_eq_true rfl)⟩ xT_b xT_at 0 6 rfl rfl rfl [0, 1, 2, 3, 4, 5, 6] rfl (by decide) rfl hl60.1 rfl (Nat.le_of_ble_eq_true rfl) dX6_search_138) (fun u_78 H1 locs hp hw80 => ?_)
                  obtain ⟨gcosts_81, glifted_82⟩ := u_78
                  generalize H1 = H at hw80 ⊢
                  have hw83 : WD D A s.heap (WZ_PV0 cI cJ mr (upd mi 8 nwants_7) (va_up (va_up (va_up (va_up (va_up (va_up mf 6 ghops_16) 7 gwanted_8) 9 gserved_72) 10 gwed_73) 49 gpmeasured_17) 50 gpmeasuredIn_18) (va_up (va_up mg 4 gcosts_81) 5 glifted_82)) H locs := hw80
                  refine lv_lload (pc := 141) E.1 E.2.1 dX6_search_141 (lv_at hl60 1 rfl) ?_
                  refine lv_ldc2 (pc := 143) (v := 10) E.1 E.2.1 E.2.2.2.1 (E.2.2.2.2.1 _ q_1211) dX6_search_143 ?_
                  refine lv_ldiv (pc := 146) E.1 E.2.1 dX6_search_146 (by decide +kernel) ?_
                  refine lv_topl (fun w_84 ew_84 => ?_)
                  refine lv_lstore (pc := 147) (lv' := [(5, .long w_84), (7, .int x_52), (4, .int v_21), (3, .int (mi 40)), (0, .ref (mr 0)), (1, .ref (mr 11)), (2, .int z_n)]) E.1 E.2.1 dX6_search_147 hl60 (by decide) rfl (fun ls hl85 => ?_)
                  obtain ⟨v_86, ev_86⟩ : ∃ z : Int32, x_52 + Int32.ofInt (1) = z := ⟨_, rfl⟩
                  have hv_86 : v_86.toInt = x_52.toInt + (1) := by rw [← ev_86]; exact incE rfl (by decide) (by omega)
                  refine lv_iinc (pc := 149) (v := v_86) (lv' := [(7, .int v_86), (5, .long w_84), (4, .int v_21), (3, .int (mi 40)), (0, .ref (mr 0)), (1, .ref (mr 11)), (2, .int z_n)]) E.1 E.2.1 dX6_search_149 hl85 (k := 1) rfl ev_86 (by decide) rfl (fun ls hl87 => ?_)
                  refine lv_goto (pc := 152) (tgt := 106) E.1 E.2.1 dX6_search_152 (by decide) ?_
                  exact ih_58 v_86 w_84 gcosts_81 glifted_82 gserved_72 gwed_73 _ _ _ ⟨(by show 0 ≤ v_86.toInt; omega), (by show v_86.toInt ≤ z_n.toInt; omega), hp_75, hp_76⟩ (by omega) hw83 (lv_sub hl87 [0, 1, 2, 3, 4, 5, 6] rfl)
                · skip
                  have hc_77 := eqE (a := x_52.toInt) (b := 0) rfl (by decide +kernel) c_77
                  refine lv_aload_n (pc := 128) E.1 E.2.1 dX6_search_128 rfl (lv_at hl60 5 rfl) ?_
                  refine x_get (pc := 129) (T := TX10) (N := 17) (ci := 10) (v := .ref (mr 21)) E hw74 inX10 7 0 q_459 rfl rfl (by decide) rfl rfl dX6_search_129 ?_
                  refine lv_goto (pc := 132) (tgt := 136) E.1 E.2.1 dX6_search_132 (by decide) ?_
                  refine lv_lload (pc := 136) E.1 E.2.1 dX6_search_136 (lv_at hl60 1 rfl) ?_
                  refine cq_v (pc := 138) (ws' := (fun (u : (Nat → Int64) × (Nat → Int64)) => (WZ_PV0 cI cJ mr (upd mi 8 nwants_7) (va_up (va_up (va_up (va_up (va_up (va_up mf 6 ghops_16) 7 gwanted_8) 9 gserved_72) 10 gwed_73) 49 gpmeasured_17) 50 gpmeasuredIn_18) (va_up (va_up mg 4 u.1) 5 u.2)))) hw74 [0, 1, 2, 3, 4, 5, 6, 13, 14, 15, 16, 17, 18] [7, 8, 9, 10, 11, 12, 19, 20, 21, 22, 23, 24, 25, 26, 27, 28, 29, 30, 31, 32, 33, 34, 35, 36, 37, 38, 39, 40, 41, 42, 43, 44, 45, 46, 47, 48, 49, 50, 51, 52, 53, 54, 55, 56] [44, 45, 46, 47, 48, 49, 50, 0, 1, 2, 3, 4, 5, 51, 52, 53, 54, 55, 56, 6, 7, 8, 9, 10, 11, 12, 13, 14, 15, 16, 17, 18, 19, 20, 21, 22, 23, 24, 25, 26, 27, 28, 29, 30, 31, 32, 33, 34, 35, 36, 37, 38, 39, 40, 41, 42, 43] rfl rfl (by decide) (by decide) (fun _ => rfl) (by decide) (rn_V (As := [.int (mi 40), .int v_21, .ref (mr 21), .long w_53]) (rest := []) E hw74 (t_spreadNight_s l D cI cJ _ (ixf [0, 1, 2, 3, 4, 5, 6, 7, 8, 9, 10, 21, 22, 23, 24, 25, 26, 27, 28, 29, 30, 31, 32, 33] mr) (ixf [0, 1, 2, 3, 4, 5, 6, 7, 8, 9, 10, 21, 22, 23, 24, 25, 26, 27, 28, 29, 30, 31, 32, 33] (upd mi 8 nwants_7)) (ixf [0, 1, 2, 3, 4, 5, 6, 7, 8, 9, 10, 21, 22, 23, 24, 25, 26, 27, 28, 29, 30, 31, 32, 33] (va_up (va_up (va_up (va_up (va_up (va_up mf 6 ghops_16) 7 gwanted_8) 9 gserved_72) 10 gwed_73) 49 gpmeasured_17) 50 gpmeasuredIn_18)) (ixf [0, 1, 2, 3, 4, 5, 6, 7, 8, 9, 10, 21, 22, 23, 24, 25, 26, 27, 28, 29, 30, 31, 32, 33] (va_up (va_up mg 4 g_54) 5 g_55)) (mi 40) v_21 w_53 (by show 0 ≤ (mi 40).toInt ∧ (mi 40).toInt ≤ 10; omega) (by show 1 ≤ v_21.toInt ∧ v_21.toInt ≤ 1024; omega) hp_75 hp_76) (gdV q_1216 q_1218 q_34 q_170 q_1219) hdV_X6_spreadNight ⟨rfl, rfl⟩ ⟨(Nat.le_of_ble_eq_true rfl), (Nat.le_of_ble_eq_true rfl)⟩ ⟨(Nat.le_of_ble_eq_true rfl), (Nat.le_of_ble_eq_true rfl)⟩ xT_b xT_at 0 6 rfl rfl rfl [0, 1, 2, 3, 4, 5, 6, 13, 14, 15, 16, 17, 18] rfl (by decide) rfl hl60.1 rfl (Nat.le_of_ble_eq_true rfl) dX6_search_138) (fun u_88 H1 locs hp hw90 => ?_)
                  obtain ⟨gcosts_91, glifted_92⟩ := u_88
                  generalize H1 = H at hw90 ⊢
                  have hw93 : WD D A s.heap (WZ_PV0 cI cJ mr (upd mi 8 nwants_7) (va_up (va_up (va_up (va_up (va_up (va_up mf 6 ghops_16) 7 gwanted_8) 9 gserved_72) 10 gwed_73) 49 gpmeasured_17) 50 gpmeasuredIn_18) (va_up (va_up mg 4 gcosts_91) 5 glifted_92)) H locs := hw90
                  refine lv_lload (pc := 141) E.1 E.2.1 dX6_search_141 (lv_at hl60 1 rfl) ?_
                  refine lv_ldc2 (pc := 143) (v := 10) E.1 E.2.1 E.2.2.2.1 (E.2.2.2.2.1 _ q_1211) dX6_search_143 ?_
                  refine lv_ldiv (pc := 146) E.1 E.2.1 dX6_search_146 (by decide +kernel) ?_
                  refine lv_topl (fun w_94 ew_94 => ?_)
                  refine lv_lstore (pc := 147) (lv' := [(5, .long w_94), (7, .int x_52), (4, .int v_21), (3, .int (mi 40)), (0, .ref (mr 0)), (1, .ref (mr 11)), (2, .int z_n)]) E.1 E.2.1 dX6_search_147 hl60 (by decide) rfl (fun ls hl95 => ?_)
                  obtain ⟨v_96, ev_96⟩ : ∃ z : Int32, x_52 + Int32.ofInt (1) = z := ⟨_, rfl⟩
                  have hv_96 : v_96.toInt = x_52.toInt + (1) := by rw [← ev_96]; exact incE rfl (by decide) (by omega)
                  refine lv_iinc (pc := 149) (v := v_96) (lv' := [(7, .int v_96), (5, .long w_94), (4, .int v_21), (3, .int (mi 40)), (0, .ref (mr 0)), (1, .ref (mr 11)), (2, .int z_n)]) E.1 E.2.1 dX6_search_149 hl95 (k := 1) rfl ev_96 (by decide) rfl (fun ls hl97 => ?_)
                  refine lv_goto (pc := 152) (tgt := 106) E.1 E.2.1 dX6_search_152 (by decide) ?_
                  exact ih_58 v_96 w_94 gcosts_91 glifted_92 gserved_72 gwed_73 _ _ _ ⟨(by show 0 ≤ v_96.toInt; omega), (by show v_96.toInt ≤ z_n.toInt; omega), hp_75, hp_76⟩ (by omega) hw93 (lv_sub hl97 [0, 1, 2, 3, 4, 5, 6] rfl)
          exact loop_51 (Int.toNat (z_n.toInt - 0) + 1) 0 r_45 g_41 (mg 5) (mf 9) (mf 10) _ _ _ ⟨(by show 0 ≤ (0 : Int32).toInt; have k_0 : (0 : Int32).toInt = 0 := (by decide +kernel); omega), (by show (0 : Int32).toInt ≤ z_n.toInt; have k_0 : (0 : Int32).toInt = 0 := (by decide +kernel); omega), a_served, a_wed⟩ (by have k_0 : (0 : Int32).toInt = 0 := (by decide +kernel); omega) hw47 (lv_sub hl50 [0, 1, 2, 3, 4, 5, 6] rfl)
        · skip
          refine lv_if_eq (pc := 79) (tgt := 95) E.1 E.2.1 dX6_search_79 (by decide) (fun _ => ?_) (fun c_98 => absurd (meqE (a := 0) (b := 0) (by decide +kernel) (by decide +kernel) (by omega)) c_98)
          refine lv_iload_n (pc := 95) E.1 E.2.1 dX6_search_95 rfl (lv_at hl29 5 rfl) ?_
          refine lv_iconst (pc := 96) (v := 1) E.1 E.2.1 dX6_search_96 (by decide +kernel) ?_
          refine lv_isub (pc := 97) E.1 E.2.1 dX6_search_97 ?_
          refine lv_topi (fun v_99 ev_99 => ?_)
          have hv_99 : v_99.toInt = z_n.toInt - 1 := by rw [ev_99]; exact subE rfl (by decide +kernel) (by omega)
          refine cq_l (pc := 98) (ws' := (fun (u : Unit) => (WZ_PV0 cI cJ mr (upd mi 8 nwants_7) (va_up (va_up (va_up (va_up mf 6 ghops_16) 7 gwanted_8) 49 gpmeasured_17) 50 gpmeasuredIn_18) (va_up mg 4 g_26)))) hw35 [] [0, 1, 2, 3, 4, 5, 6, 7, 8, 9, 10, 11, 12, 13, 14, 15, 16, 17, 18, 19, 20, 21, 22, 23, 24, 25, 26, 27, 28, 29, 30, 31, 32, 33, 34, 35, 36, 37, 38, 39, 40, 41, 42, 43, 44, 45, 46, 47, 48, 49, 50, 51, 52, 53, 54, 55, 56] [0, 1, 2, 3, 4, 5, 6, 7, 8, 9, 10, 11, 12, 13, 14, 15, 16, 17, 18, 19, 20, 21, 22, 23, 24, 25, 26, 27, 28, 29, 30, 31, 32, 33, 34, 35, 36, 37, 38, 39, 40, 41, 42, 43, 44, 45, 46, 47, 48, 49, 50, 51, 52, 53, 54, 55, 56] rfl rfl (by decide) (by decide) (fun _ => rfl) (by decide) (rn_S (As := [.int v_99]) (rest := []) E hw35 (t_power l D cI cJ _ (ixf [] mr) (ixf [] (upd mi 8 nwants_7)) (ixf [] (va_up (va_up (va_up (va_up mf 6 ghops_16) 7 gwanted_8) 49 gpmeasured_17) 50 gpmeasuredIn_18)) (ixf [] (va_up mg 4 g_26)) v_99 (by show 0 ≤ v_99.toInt ∧ v_99.toInt ≤ 9; omega)) (gdS q_1208 q_1209 q_170 q_1210) hdV_X6_power ⟨rfl, rfl⟩ ⟨(Nat.le_of_ble_eq_true rfl), (Nat.le_of_ble_eq_true rfl)⟩ ⟨(Nat.le_of_ble_eq_true rfl), (Nat.le_of_ble_eq_true rfl)⟩ xT_b xT_at [] rfl (by decide) rfl hl29.1 rfl (Nat.le_of_ble_eq_true rfl) dX6_search_98) (fun r_101 u_100 H1 locs hp hw102 => ?_)
          generalize H1 = H at hw102 ⊢
          have hw103 : WD D A s.heap (WZ_PV0 cI cJ mr (upd mi 8 nwants_7) (va_up (va_up (va_up (va_up mf 6 ghops_16) 7 gwanted_8) 49 gpmeasured_17) 50 gpmeasuredIn_18) (va_up mg 4 g_26)) H locs := hw102
          have hp_104 := hp
          have hp_104 : ¬ r_101 = 0 := hp_104
          refine lv_lstore (pc := 101) (lv' := [(5, .long r_101), (4, .int v_21), (3, .int (mi 40)), (0, .ref (mr 0)), (1, .ref (mr 11)), (2, .int z_n)]) E.1 E.2.1 dX6_search_101 hl29 (by decide) rfl (fun ls hl105 => ?_)
          refine lv_iconst (pc := 103) (v := 0) E.1 E.2.1 dX6_search_103 (by decide +kernel) ?_
          refine lv_istore (pc := 104) (lv' := [(7, .int 0), (5, .long r_101), (4, .int v_21), (3, .int (mi 40)), (0, .ref (mr 0)), (1, .ref (mr 11)), (2, .int z_n)]) E.1 E.2.1 dX6_search_104 hl105 (by decide) rfl (fun ls hl106 => ?_)
          have loop_107 : ∀ (k : Nat) (x_108 : Int32) (w_109 : Int64) (g_110 : Nat → Int64) (g_111 : Nat → Int64) (g_112 : Nat → Int32) (g_113 : Nat → Int32) (H : Heap) (locs : List Loc) (ls : Array Slot), (0 ≤ x_108.toInt) ∧ (x_108.toInt ≤ z_n.toInt) ∧ s1k g_112 ∧ s1k g_113 → z_n.toInt - x_108.toInt < (k : Int) → WD D A s.heap (WZ_PV0 cI cJ mr (upd mi 8 nwants_7) (va_up (va_up (va_up (va_up (va_up (va_up mf 6 ghops_16) 7 gwanted_8) 9 g_112) 10 g_113) 49 gpmeasured_17) 50 gpmeasuredIn_18) (va_up (va_up mg 4 g_110) 5 g_111)) H locs → lv_has ls 8 [(7, .int x_108), (5, .long w_109), (4, .int v_21), (3, .int (mi 40)), (0, .ref (mr 0)), (1, .ref (mr 11)), (2, .int z_n)] → W p l e ({ frames := 5, cells := 0, slots := 0, locals := 139 } : Room) s m ([.ref (mr 0), .ref (mr 11), .int z_n] : List Value).toArray below meth c H locs 0 0 (MQ below (va_Qv (fun (u : Int32 × (Nat → Int32) × (Nat → Int32) × (Nat → Int64) × (Nat → Int64) × (Nat → Int32) × (Nat → Int32) × Int32 × (Nat → Int64) × Int32 × (Nat → Int32) × (Nat → Int32)) => (u.2.2.2.2.2.2.2.2.2.1.toInt = z_n.toInt) ∧ (0 ≤ u.1.toInt) ∧ (u.1.toInt ≤ 10) ∧ (s1k u.2.2.2.2.2.1) ∧ (s1k u.2.2.2.2.2.2.1) ∧ (w9 u.2.1)) (fun u => QW D cI cJ A ((fun (u : Int32 × (Nat → Int32) × (Nat → Int32) × (Nat → Int64) × (Nat → Int64) × (Nat → Int32) × (Nat → Int32) × Int32 × (Nat → Int64) × Int32 × (Nat → Int32) × (Nat → Int32)) => (WZ_PV0 cI cJ mr (upd (upd (upd mi 8 u.1) 2 u.2.2.2.2.2.2.2.1) 1 u.2.2.2.2.2.2.2.2.2.1) (va_up (va_up (va_up (va_up (va_up (va_up mf 7 u.2.1) 6 u.2.2.1) 9 u.2.2.2.2.2.1) 10 u.2.2.2.2.2.2.1) 49 u.2.2.2.2.2.2.2.2.2.2.1) 50 u.2.2.2.2.2.2.2.2.2.2.2) (va_up (va_up (va_up mg 4 u.2.2.2.1) 5 u.2.2.2.2.1) 3 u.2.2.2.2.2.2.2.2.1))) u)) A) ([.ref (mr 0), .ref (mr 11), .int z_n] : List Value).toArray s 0 0 A) (F0 m 106 ls []) := by
            intro k
            induction k with
            | zero =>
              intro x_108 w_109 g_110 g_111 g_112 g_113 _ _ _ hinv hm
              obtain ⟨hi_113_0, hi_113_1, hi_113_2, hi_113_3⟩ := hinv
              exact absurd hm (by omega)
            | succ k ih_114 =>
              intro x_108 w_109 g_110 g_111 g_112 g_113 H locs ls hinv hm hw115 hl116
              obtain ⟨hi_113_0, hi_113_1, hi_113_2, hi_113_3⟩ := hinv
              refine lv_iload (pc := 106) E.1 E.2.1 dX6_search_106 (lv_at hl116 0 rfl) ?_
              refine lv_iload_n (pc := 108) E.1 E.2.1 dX6_search_108 rfl (lv_at hl116 6 rfl) ?_
              refine lv_icmp_ge (pc := 109) (tgt := 155) E.1 E.2.1 dX6_search_109 (by decide) (fun c_117 => ?_) (fun c_117 => ?_)
              · skip
                have hc_117 := leE (a := z_n.toInt) (b := x_108.toInt) rfl rfl c_117
                refine lv_aload_n (pc := 155) E.1 E.2.1 dX6_search_155 rfl (lv_at hl116 4 rfl) ?_
                refine lv_aload_n (pc := 156) E.1 E.2.1 dX6_search_156 rfl (lv_at hl116 5 rfl) ?_
                refine lv_iload_n (pc := 157) E.1 E.2.1 dX6_search_157 rfl (lv_at hl116 3 rfl) ?_
                refine lv_iload (pc := 158) E.1 E.2.1 dX6_search_158 (lv_at hl116 2 rfl) ?_
                refine cq_v (pc := 160) (ws' := (fun (u : Int32 × (Nat → Int64)) => (WZ_PV0 cI cJ mr (upd (upd mi 2 u.1) 8 nwants_7) (va_up (va_up (va_up (va_up (va_up (va_up mf 6 ghops_16) 7 gwanted_8) 9 g_112) 10 g_113) 49 gpmeasured_17) 50 gpmeasuredIn_18) (va_up (va_up (va_up mg 3 u.2) 4 g_110) 5 g_111)))) hw115 [0, 1, 2, 3, 4, 5, 6, 7, 8, 9, 10, 11, 12, 13, 14, 15, 16, 17, 18, 19, 20, 21, 22, 23, 24, 25, 26, 27, 28, 29, 30, 31, 32, 33, 34, 35, 36, 37, 38, 39, 40, 41, 42, 43, 44, 45, 46, 47, 48, 49, 50, 51, 52, 53, 54, 55, 56] [] [0, 1, 2, 3, 4, 5, 6, 7, 8, 9, 10, 11, 12, 13, 14, 15, 16, 17, 18, 19, 20, 21, 22, 23, 24, 25, 26, 27, 28, 29, 30, 31, 32, 33, 34, 35, 36, 37, 38, 39, 40, 41, 42, 43, 44, 45, 46, 47, 48, 49, 50, 51, 52, 53, 54, 55, 56] rfl rfl (by decide) (by decide) (fun _ => rfl) (by decide) (rn_V (As := [.ref (mr 11), .int (mi 40), .int v_21]) (rest := []) E hw115 (t_choose0 l D cI cJ _ (ixf [0, 1, 2, 3, 4, 5, 6, 7, 8, 9, 10, 11, 12, 13, 14, 15, 16, 17, 18, 19, 20, 21, 22, 23, 24, 25, 26, 27, 28, 29, 30, 31, 32, 33, 34, 35, 36, 37, 38, 39, 40, 41, 42, 43, 44, 45, 46, 47, 48, 49, 50, 51, 52, 53, 54, 55, 56, 57, 58, 59, 60, 61, 62, 63, 64, 65, 66, 67, 68, 69, 70, 71, 72, 73, 74, 75, 76, 77, 78, 79, 80, 81, 82, 83, 84, 85, 86, 87] mr) (ixf [0, 1, 2, 3, 4, 5, 6, 7, 8, 9, 10, 11, 12, 13, 14, 15, 16, 17, 18, 19, 20, 21, 22, 23, 24, 25, 26, 27, 28, 29, 30, 31, 32, 33, 34, 35, 36, 37, 38, 39, 40, 41, 42, 43, 44, 45, 46, 47, 48, 49, 50, 51, 52, 53, 54, 55, 56, 57, 58, 59, 60, 61, 62, 63, 64, 65, 66, 67, 68, 69, 70, 71, 72, 73, 74, 75, 76, 77, 78, 79, 80, 81, 82, 83, 84, 85, 86, 87] (upd mi 8 nwants_7)) (ixf [0, 1, 2, 3, 4, 5, 6, 7, 8, 9, 10, 11, 12, 13, 14, 15, 16, 17, 18, 19, 20, 21, 22, 23, 24, 25, 26, 27, 28, 29, 30, 31, 32, 33, 34, 35, 36, 37, 38, 39, 40, 41, 42, 43, 44, 45, 46, 47, 48, 49, 50, 51, 52, 53, 54, 55, 56, 57, 58, 59, 60, 61, 62, 63, 64, 65, 66, 67, 68, 69, 70, 71, 72, 73, 74, 75, 76, 77, 78, 79, 80, 81, 82, 83, 84, 85, 86, 87] (va_up (va_up (va_up (va_up (va_up (va_up mf 6 ghops_16) 7 gwanted_8) 9 g_112) 10 g_113) 49 gpmeasured_17) 50 gpmeasuredIn_18)) (ixf [0, 1, 2, 3, 4, 5, 6, 7, 8, 9, 10, 11, 12, 13, 14, 15, 16, 17, 18, 19, 20, 21, 22, 23, 24, 25, 26, 27, 28, 29, 30, 31, 32, 33, 34, 35, 36, 37, 38, 39, 40, 41, 42, 43, 44, 45, 46, 47, 48, 49, 50, 51, 52, 53, 54, 55, 56, 57, 58, 59, 60, 61, 62, 63, 64, 65, 66, 67, 68, 69, 70, 71, 72, 73, 74, 75, 76, 77, 78, 79, 80, 81, 82, 83, 84, 85, 86, 87] (va_up (va_up mg 4 g_110) 5 g_111)) (mi 40) v_21 (by show 0 ≤ (mi 40).toInt ∧ (mi 40).toInt ≤ 10; omega) (by show 0 ≤ (mi 48).toInt ∧ (mi 48).toInt ≤ 40; omega) (by show 0 ≤ (mi 57).toInt ∧ (mi 57).toInt ≤ 10; omega) (by show 0 ≤ nwants_7.toInt ∧ nwants_7.toInt ≤ 10; omega) (by show 0 ≤ (mi 40).toInt ∧ (mi 40).toInt ≤ 10; omega) (by show 1 ≤ v_21.toInt ∧ v_21.toInt ≤ 1024; omega) hp_12) (gdV q_1230 q_1232 q_37 q_170 q_1233) hdV_X6_choose ⟨rfl, rfl⟩ ⟨(Nat.le_of_ble_eq_true rfl), (Nat.le_of_ble_eq_true rfl)⟩ ⟨(Nat.le_of_ble_eq_true rfl), (Nat.le_of_ble_eq_true rfl)⟩ xT_b xT_at 0 6 rfl rfl rfl [0, 1, 2, 3, 4, 5, 6, 7, 8, 9, 10, 11, 12, 13, 14, 15, 16, 17, 18, 19, 20, 21, 22, 23, 24, 25, 26, 27, 28, 29, 30, 31, 32, 33, 34, 35, 36, 37, 38, 39, 40, 41, 42, 43, 44, 45, 46, 47, 48, 49, 50, 51, 52, 53, 54, 55, 56] rfl (by decide) rfl hl116.1 rfl (Nat.le_of_ble_eq_true rfl) dX6_search_160) (fun u_118 H1 locs hp hw120 => ?_)
                obtain ⟨nmostWorth_121, gleastCost_122⟩ := u_118
                generalize H1 = H at hw120 ⊢
                have hw123 : WD D A s.heap (WZ_PV0 cI cJ mr (upd (upd mi 2 nmostWorth_121) 8 nwants_7) (va_up (va_up (va_up (va_up (va_up (va_up mf 6 ghops_16) 7 gwanted_8) 9 g_112) 10 g_113) 49 gpmeasured_17) 50 gpmeasuredIn_18) (va_up (va_up (va_up mg 3 gleastCost_122) 4 g_110) 5 g_111)) H locs := hw120
                refine lv_aload_n (pc := 163) E.1 E.2.1 dX6_search_163 rfl (lv_at hl116 4 rfl) ?_
                refine lv_iload_n (pc := 164) E.1 E.2.1 dX6_search_164 rfl (lv_at hl116 6 rfl) ?_
                refine x_put (pc := 165) (T := TX6) (N := 10) (ci := 6) (ws' := (WZ_PV0 cI cJ mr (upd (upd (upd mi 1 z_n) 2 nmostWorth_121) 8 nwants_7) (va_up (va_up (va_up (va_up (va_up (va_up mf 6 ghops_16) 7 gwanted_8) 9 g_112) 10 g_113) 49 gpmeasured_17) 50 gpmeasuredIn_18) (va_up (va_up (va_up mg 3 gleastCost_122) 4 g_110) 5 g_111))) E hw123 inX6 tyX6_ok nmX6 0 0 q_1160 rfl rfl (by decide) rfl rfl rfl rfl (Nat.le_of_ble_eq_true rfl) rfl dX6_search_165 (fun H locs hw124 => ?_)
                exact em_v (w1 := (fun (u : Int32 × (Nat → Int32) × (Nat → Int32) × (Nat → Int64) × (Nat → Int64) × (Nat → Int32) × (Nat → Int32) × Int32 × (Nat → Int64) × Int32 × (Nat → Int32) × (Nat → Int32)) => (WZ_PV0 cI cJ mr (upd (upd (upd mi 8 u.1) 2 u.2.2.2.2.2.2.2.1) 1 u.2.2.2.2.2.2.2.2.2.1) (va_up (va_up (va_up (va_up (va_up (va_up mf 7 u.2.1) 6 u.2.2.1) 9 u.2.2.2.2.2.1) 10 u.2.2.2.2.2.2.1) 49 u.2.2.2.2.2.2.2.2.2.2.1) 50 u.2.2.2.2.2.2.2.2.2.2.2) (va_up (va_up (va_up mg 4 u.2.2.2.1) 5 u.2.2.2.2.1) 3 u.2.2.2.2.2.2.2.2.1)))) E hr hlk (nwants_7, gwanted_8, ghops_16, g_110, g_111, g_112, g_113, nmostWorth_121, gleastCost_122, z_n, gpmeasured_17, gpmeasuredIn_18) hw124 ⟨(by show z_n.toInt = z_n.toInt; omega), (by show 0 ≤ nwants_7.toInt; omega), (by show nwants_7.toInt ≤ 10; omega), hi_113_2, hi_113_3, hp_12⟩ (Nat.le_of_ble_eq_true rfl) (Nat.le_of_ble_eq_true rfl) dX6_search_168
              · skip
                have hc_117 := nleE (a := z_n.toInt) (b := x_108.toInt) rfl rfl c_117
                refine lv_aload_n (pc := 112) E.1 E.2.1 dX6_search_112 rfl (lv_at hl116 4 rfl) ?_
                refine lv_aload_n (pc := 113) E.1 E.2.1 dX6_search_113 rfl (lv_at hl116 5 rfl) ?_
                refine lv_iload (pc := 114) E.1 E.2.1 dX6_search_114 (lv_at hl116 0 rfl) ?_
                refine cq_v (pc := 116) (ws' := (fun (u : (Nat → Int32) × (Nat → Int32)) => (WZ_PV0 cI cJ mr (upd mi 8 nwants_7) (va_up (va_up (va_up (va_up (va_up (va_up mf 6 ghops_16) 7 gwanted_8) 9 u.1) 10 u.2) 49 gpmeasured_17) 50 gpmeasuredIn_18) (va_up (va_up mg 4 g_110) 5 g_111)))) hw115 [0, 1, 2, 3, 4, 5, 6, 7, 8, 9, 10, 11, 12, 13, 14, 15, 16, 17, 18, 19, 20, 21, 22, 23, 24, 25, 26, 27, 28, 29, 30, 31, 32, 33, 34, 35, 36, 37, 38, 39, 40, 41, 42, 43, 44, 45, 46, 47, 48, 49, 50, 51, 52, 53, 54, 55, 56] [] [0, 1, 2, 3, 4, 5, 6, 7, 8, 9, 10, 11, 12, 13, 14, 15, 16, 17, 18, 19, 20, 21, 22, 23, 24, 25, 26, 27, 28, 29, 30, 31, 32, 33, 34, 35, 36, 37, 38, 39, 40, 41, 42, 43, 44, 45, 46, 47, 48, 49, 50, 51, 52, 53, 54, 55, 56] rfl rfl (by decide) (by decide) (fun _ => rfl) (by decide) (rn_V (As := [.ref (mr 11), .int x_108]) (rest := []) E hw115 (t_gatherServed0 l D cI cJ _ (ixf [0, 1, 2, 3, 4, 5, 6, 7, 8, 9, 10, 11, 12, 13, 14, 15, 16, 17, 18, 19, 20, 21, 22, 23, 24, 25, 26, 27, 28, 29, 30, 31, 32, 33, 34, 35, 36, 37, 38, 39, 40, 41, 42, 43, 44, 45, 46, 47, 48, 49, 50, 51, 52, 53, 54, 55, 56, 57, 58, 59, 60, 61, 62, 63, 64, 65, 66, 67, 68, 69, 70, 71, 72, 73, 74, 75, 76, 77, 78, 79, 80, 81, 82, 83, 84, 85, 86, 87] mr) (ixf [0, 1, 2, 3, 4, 5, 6, 7, 8, 9, 10, 11, 12, 13, 14, 15, 16, 17, 18, 19, 20, 21, 22, 23, 24, 25, 26, 27, 28, 29, 30, 31, 32, 33, 34, 35, 36, 37, 38, 39, 40, 41, 42, 43, 44, 45, 46, 47, 48, 49, 50, 51, 52, 53, 54, 55, 56, 57, 58, 59, 60, 61, 62, 63, 64, 65, 66, 67, 68, 69, 70, 71, 72, 73, 74, 75, 76, 77, 78, 79, 80, 81, 82, 83, 84, 85, 86, 87] (upd mi 8 nwants_7)) (ixf [0, 1, 2, 3, 4, 5, 6, 7, 8, 9, 10, 11, 12, 13, 14, 15, 16, 17, 18, 19, 20, 21, 22, 23, 24, 25, 26, 27, 28, 29, 30, 31, 32, 33, 34, 35, 36, 37, 38, 39, 40, 41, 42, 43, 44, 45, 46, 47, 48, 49, 50, 51, 52, 53, 54, 55, 56, 57, 58, 59, 60, 61, 62, 63, 64, 65, 66, 67, 68, 69, 70, 71, 72, 73, 74, 75, 76, 77, 78, 79, 80, 81, 82, 83, 84, 85, 86, 87] (va_up (va_up (va_up (va_up (va_up (va_up mf 6 ghops_16) 7 gwanted_8) 9 g_112) 10 g_113) 49 gpmeasured_17) 50 gpmeasuredIn_18)) (ixf [0, 1, 2, 3, 4, 5, 6, 7, 8, 9, 10, 11, 12, 13, 14, 15, 16, 17, 18, 19, 20, 21, 22, 23, 24, 25, 26, 27, 28, 29, 30, 31, 32, 33, 34, 35, 36, 37, 38, 39, 40, 41, 42, 43, 44, 45, 46, 47, 48, 49, 50, 51, 52, 53, 54, 55, 56, 57, 58, 59, 60, 61, 62, 63, 64, 65, 66, 67, 68, 69, 70, 71, 72, 73, 74, 75, 76, 77, 78, 79, 80, 81, 82, 83, 84, 85, 86, 87] (va_up (va_up mg 4 g_110) 5 g_111)) x_108 (by show 0 ≤ (mi 40).toInt ∧ (mi 40).toInt ≤ 10; omega) (by show 0 ≤ (mi 48).toInt ∧ (mi 48).toInt ≤ 40; omega) (by show 0 ≤ (mi 57).toInt ∧ (mi 57).toInt ≤ 10; omega) (by show 0 ≤ nwants_7.toInt ∧ nwants_7.toInt ≤ 10; omega) hi_113_2 hi_113_3 hp_12) (gdV q_1212 q_1214 q_33 q_170 q_1215) hdV_X6_gatherServed ⟨rfl, rfl⟩ ⟨(Nat.le_of_ble_eq_true rfl), (Nat.le_of_ble_eq_true rfl)⟩ ⟨(Nat.le_of_ble_eq_true rfl), (Nat.le_of_ble_eq_true rfl)⟩ xT_b xT_at 0 6 rfl rfl rfl [0, 1, 2, 3, 4, 5, 6, 7, 8, 9, 10, 11, 12, 13, 14, 15, 16, 17, 18, 19, 20, 21, 22, 23, 24, 25, 26, 27, 28, 29, 30, 31, 32, 33, 34, 35, 36, 37, 38, 39, 40, 41, 42, 43, 44, 45, 46, 47, 48, 49, 50, 51, 52, 53, 54, 55, 56] rfl (by decide) rfl hl116.1 rfl (Nat.le_of_ble_eq_true rfl) dX6_search_116) (fun u_125 H1 locs hp hw127 => ?_)
                obtain ⟨gserved_128, gwed_129⟩ := u_125
                generalize H1 = H at hw127 ⊢
                have hw130 : WD D A s.heap (WZ_PV0 cI cJ mr (upd mi 8 nwants_7) (va_up (va_up (va_up (va_up (va_up (va_up mf 6 ghops_16) 7 gwanted_8) 9 gserved_128) 10 gwed_129) 49 gpmeasured_17) 50 gpmeasuredIn_18) (va_up (va_up mg 4 g_110) 5 g_111)) H locs := hw127
                obtain ⟨hp_131, hp_132⟩ := hp
                refine lv_aload_n (pc := 119) E.1 E.2.1 dX6_search_119 rfl (lv_at hl116 4 rfl) ?_
                refine lv_iload_n (pc := 120) E.1 E.2.1 dX6_search_120 rfl (lv_at hl116 3 rfl) ?_
                refine lv_iload (pc := 121) E.1 E.2.1 dX6_search_121 (lv_at hl116 2 rfl) ?_
                refine lv_iload (pc := 123) E.1 E.2.1 dX6_search_123 (lv_at hl116 0 rfl) ?_
                refine lv_if_ne (pc := 125) (tgt := 135) E.1 E.2.1 dX6_search_125 (by decide) (fun c_133 => ?_) (fun c_133 => ?_)
                · skip
                  have hc_133 := neE (a := x_108.toInt) (b := 0) rfl (by decide +kernel) c_133
                  refine lv_null (pc := 135) E.1 E.2.1 dX6_search_135 ?_
                  refine lv_lload (pc := 136) E.1 E.2.1 dX6_search_136 (lv_at hl116 1 rfl) ?_
                  refine cq_v (pc := 138) (ws' := (fun (u : (Nat → Int64) × (Nat → Int64)) => (WZ_PV0 cI cJ mr (upd mi 8 nwants_7) (va_up (va_up (va_up (va_up (va_up (va_up mf 6 ghops_16) 7 gwanted_8) 9 gserved_128) 10 gwed_129) 49 gpmeasured_17) 50 gpmeasuredIn_18) (va_up (va_up mg 4 u.1) 5 u.2)))) hw130 [0, 1, 2, 3, 4, 5, 6] [7, 8, 9, 10, 11, 12, 13, 14, 15, 16, 17, 18, 19, 20, 21, 22, 23, 24, 25, 26, 27, 28, 29, 30, 31, 32, 33, 34, 35, 36, 37, 38, 39, 40, 41, 42, 43, 44, 45, 46, 47, 48, 49, 50, 51, 52, 53, 54, 55, 56] [50, 51, 52, 53, 54, 55, 56, 0, 1, 2, 3, 4, 5, 6, 7, 8, 9, 10, 11, 12, 13, 14, 15, 16, 17, 18, 19, 20, 21, 22, 23, 24, 25, 26, 27, 28, 29, 30, 31, 32, 33, 34, 35, 36, 37, 38, 39, 40, 41, 42, 43, 44, 45, 46, 47, 48, 49] rfl rfl (by decide) (by decide) (fun _ => rfl) (by decide) (rn_V (As := [.int (mi 40), .int v_21, .null, .long w_109]) (rest := []) E hw130 (t_spreadNight_n l D cI cJ _ (ixf [0, 1, 2, 3, 4, 5, 6, 7, 8, 9, 10] mr) (ixf [0, 1, 2, 3, 4, 5, 6, 7, 8, 9, 10] (upd mi 8 nwants_7)) (ixf [0, 1, 2, 3, 4, 5, 6, 7, 8, 9, 10] (va_up (va_up (va_up (va_up (va_up (va_up mf 6 ghops_16) 7 gwanted_8) 9 gserved_128) 10 gwed_129) 49 gpmeasured_17) 50 gpmeasuredIn_18)) (ixf [0, 1, 2, 3, 4, 5, 6, 7, 8, 9, 10] (va_up (va_up mg 4 g_110) 5 g_111)) (mi 40) v_21 w_109 (by show 0 ≤ (mi 40).toInt ∧ (mi 40).toInt ≤ 10; omega) (by show 1 ≤ v_21.toInt ∧ v_21.toInt ≤ 1024; omega) hp_131 hp_132) (gdV q_1216 q_1218 q_34 q_170 q_1219) hdV_X6_spreadNight ⟨rfl, rfl⟩ ⟨(Nat.le_of_ble_eq_true rfl), (Nat.le_of_ble_eq_true rfl)⟩ ⟨(Nat.le_of_ble_eq_true rfl), (Nat.le_of_ble_eq_true rfl)⟩ xT_b xT_at 0 6 rfl rfl rfl [0, 1, 2, 3, 4, 5, 6] rfl (by decide) rfl hl116.1 rfl (Nat.le_of_ble_eq_true rfl) dX6_search_138) (fun u_134 H1 locs hp hw136 => ?_)
                  obtain ⟨gcosts_137, glifted_138⟩ := u_134
                  generalize H1 = H at hw136 ⊢
                  have hw139 : WD D A s.heap (WZ_PV0 cI cJ mr (upd mi 8 nwants_7) (va_up (va_up (va_up (va_up (va_up (va_up mf 6 ghops_16) 7 gwanted_8) 9 gserved_128) 10 gwed_129) 49 gpmeasured_17) 50 gpmeasuredIn_18) (va_up (va_up mg 4 gcosts_137) 5 glifted_138)) H locs := hw136
                  refine lv_lload (pc := 141) E.1 E.2.1 dX6_search_141 (lv_at hl116 1 rfl) ?_
                  refine lv_ldc2 (pc := 143) (v := 10) E.1 E.2.1 E.2.2.2.1 (E.2.2.2.2.1 _ q_1211) dX6_search_143 ?_
                  refine lv_ldiv (pc := 146) E.1 E.2.1 dX6_search_146 (by decide +kernel) ?_
                  refine lv_topl (fun w_140 ew_140 => ?_)
                  refine lv_lstore (pc := 147) (lv' := [(5, .long w_140), (7, .int x_108), (4, .int v_21), (3, .int (mi 40)), (0, .ref (mr 0)), (1, .ref (mr 11)), (2, .int z_n)]) E.1 E.2.1 dX6_search_147 hl116 (by decide) rfl (fun ls hl141 => ?_)
                  obtain ⟨v_142, ev_142⟩ : ∃ z : Int32, x_108 + Int32.ofInt (1) = z := ⟨_, rfl⟩
                  have hv_142 : v_142.toInt = x_108.toInt + (1) := by rw [← ev_142]; exact incE rfl (by decide) (by omega)
                  refine lv_iinc (pc := 149) (v := v_142) (lv' := [(7, .int v_142), (5, .long w_140), (4, .int v_21), (3, .int (mi 40)), (0, .ref (mr 0)), (1, .ref (mr 11)), (2, .int z_n)]) E.1 E.2.1 dX6_search_149 hl141 (k := 1) rfl ev_142 (by decide) rfl (fun ls hl143 => ?_)
                  refine lv_goto (pc := 152) (tgt := 106) E.1 E.2.1 dX6_search_152 (by decide) ?_
                  exact ih_114 v_142 w_140 gcosts_137 glifted_138 gserved_128 gwed_129 _ _ _ ⟨(by show 0 ≤ v_142.toInt; omega), (by show v_142.toInt ≤ z_n.toInt; omega), hp_131, hp_132⟩ (by omega) hw139 (lv_sub hl143 [0, 1, 2, 3, 4, 5, 6] rfl)
                · skip
                  have hc_133 := eqE (a := x_108.toInt) (b := 0) rfl (by decide +kernel) c_133
                  refine lv_aload_n (pc := 128) E.1 E.2.1 dX6_search_128 rfl (lv_at hl116 5 rfl) ?_
                  refine x_get (pc := 129) (T := TX10) (N := 17) (ci := 10) (v := .ref (mr 21)) E hw130 inX10 7 0 q_459 rfl rfl (by decide) rfl rfl dX6_search_129 ?_
                  refine lv_goto (pc := 132) (tgt := 136) E.1 E.2.1 dX6_search_132 (by decide) ?_
                  refine lv_lload (pc := 136) E.1 E.2.1 dX6_search_136 (lv_at hl116 1 rfl) ?_
                  refine cq_v (pc := 138) (ws' := (fun (u : (Nat → Int64) × (Nat → Int64)) => (WZ_PV0 cI cJ mr (upd mi 8 nwants_7) (va_up (va_up (va_up (va_up (va_up (va_up mf 6 ghops_16) 7 gwanted_8) 9 gserved_128) 10 gwed_129) 49 gpmeasured_17) 50 gpmeasuredIn_18) (va_up (va_up mg 4 u.1) 5 u.2)))) hw130 [0, 1, 2, 3, 4, 5, 6, 13, 14, 15, 16, 17, 18] [7, 8, 9, 10, 11, 12, 19, 20, 21, 22, 23, 24, 25, 26, 27, 28, 29, 30, 31, 32, 33, 34, 35, 36, 37, 38, 39, 40, 41, 42, 43, 44, 45, 46, 47, 48, 49, 50, 51, 52, 53, 54, 55, 56] [44, 45, 46, 47, 48, 49, 50, 0, 1, 2, 3, 4, 5, 51, 52, 53, 54, 55, 56, 6, 7, 8, 9, 10, 11, 12, 13, 14, 15, 16, 17, 18, 19, 20, 21, 22, 23, 24, 25, 26, 27, 28, 29, 30, 31, 32, 33, 34, 35, 36, 37, 38, 39, 40, 41, 42, 43] rfl rfl (by decide) (by decide) (fun _ => rfl) (by decide) (rn_V (As := [.int (mi 40), .int v_21, .ref (mr 21), .long w_109]) (rest := []) E hw130 (t_spreadNight_s l D cI cJ _ (ixf [0, 1, 2, 3, 4, 5, 6, 7, 8, 9, 10, 21, 22, 23, 24, 25, 26, 27, 28, 29, 30, 31, 32, 33] mr) (ixf [0, 1, 2, 3, 4, 5, 6, 7, 8, 9, 10, 21, 22, 23, 24, 25, 26, 27, 28, 29, 30, 31, 32, 33] (upd mi 8 nwants_7)) (ixf [0, 1, 2, 3, 4, 5, 6, 7, 8, 9, 10, 21, 22, 23, 24, 25, 26, 27, 28, 29, 30, 31, 32, 33] (va_up (va_up (va_up (va_up (va_up (va_up mf 6 ghops_16) 7 gwanted_8) 9 gserved_128) 10 gwed_129) 49 gpmeasured_17) 50 gpmeasuredIn_18)) (ixf [0, 1, 2, 3, 4, 5, 6, 7, 8, 9, 10, 21, 22, 23, 24, 25, 26, 27, 28, 29, 30, 31, 32, 33] (va_up (va_up mg 4 g_110) 5 g_111)) (mi 40) v_21 w_109 (by show 0 ≤ (mi 40).toInt ∧ (mi 40).toInt ≤ 10; omega) (by show 1 ≤ v_21.toInt ∧ v_21.toInt ≤ 1024; omega) hp_131 hp_132) (gdV q_1216 q_1218 q_34 q_170 q_1219) hdV_X6_spreadNight ⟨rfl, rfl⟩ ⟨(Nat.le_of_ble_eq_true rfl), (Nat.le_of_ble_eq_true rfl)⟩ ⟨(Nat.le_of_ble_eq_true rfl), (Nat.le_of_ble_eq_true rfl)⟩ xT_b xT_at 0 6 rfl rfl rfl [0, 1, 2, 3, 4, 5, 6, 13, 14, 15, 16, 17, 18] rfl (by decide) rfl hl116.1 rfl (Nat.le_of_ble_eq_true rfl) dX6_search_138) (fun u_144 H1 locs hp hw146 => ?_)
                  obtain ⟨gcosts_147, glifted_148⟩ := u_144
                  generalize H1 = H at hw146 ⊢
                  have hw149 : WD D A s.heap (WZ_PV0 cI cJ mr (upd mi 8 nwants_7) (va_up (va_up (va_up (va_up (va_up (va_up mf 6 ghops_16) 7 gwanted_8) 9 gserved_128) 10 gwed_129) 49 gpmeasured_17) 50 gpmeasuredIn_18) (va_up (va_up mg 4 gcosts_147) 5 glifted_148)) H locs := hw146
                  refine lv_lload (pc := 141) E.1 E.2.1 dX6_search_141 (lv_at hl116 1 rfl) ?_
                  refine lv_ldc2 (pc := 143) (v := 10) E.1 E.2.1 E.2.2.2.1 (E.2.2.2.2.1 _ q_1211) dX6_search_143 ?_
                  refine lv_ldiv (pc := 146) E.1 E.2.1 dX6_search_146 (by decide +kernel) ?_
                  refine lv_topl (fun w_150 ew_150 => ?_)
                  refine lv_lstore (pc := 147) (lv' := [(5, .long w_150), (7, .int x_108), (4, .int v_21), (3, .int (mi 40)), (0, .ref (mr 0)), (1, .ref (mr 11)), (2, .int z_n)]) E.1 E.2.1 dX6_search_147 hl116 (by decide) rfl (fun ls hl151 => ?_)
                  obtain ⟨v_152, ev_152⟩ : ∃ z : Int32, x_108 + Int32.ofInt (1) = z := ⟨_, rfl⟩
                  have hv_152 : v_152.toInt = x_108.toInt + (1) := by rw [← ev_152]; exact incE rfl (by decide) (by omega)
                  refine lv_iinc (pc := 149) (v := v_152) (lv' := [(7, .int v_152), (5, .long w_150), (4, .int v_21), (3, .int (mi 40)), (0, .ref (mr 0)), (1, .ref (mr 11)), (2, .int z_n)]) E.1 E.2.1 dX6_search_149 hl151 (k := 1) rfl ev_152 (by decide) rfl (fun ls hl153 => ?_)
                  refine lv_goto (pc := 152) (tgt := 106) E.1 E.2.1 dX6_search_152 (by decide) ?_
                  exact ih_114 v_152 w_150 gcosts_147 glifted_148 gserved_128 gwed_129 _ _ _ ⟨(by show 0 ≤ v_152.toInt; omega), (by show v_152.toInt ≤ z_n.toInt; omega), hp_131, hp_132⟩ (by omega) hw149 (lv_sub hl153 [0, 1, 2, 3, 4, 5, 6] rfl)
          exact loop_107 (Int.toNat (z_n.toInt - 0) + 1) 0 r_101 g_26 (mg 5) (mf 9) (mf 10) _ _ _ ⟨(by show 0 ≤ (0 : Int32).toInt; have k_0 : (0 : Int32).toInt = 0 := (by decide +kernel); omega), (by show (0 : Int32).toInt ≤ z_n.toInt; have k_0 : (0 : Int32).toInt = 0 := (by decide +kernel); omega), a_served, a_wed⟩ (by have k_0 : (0 : Int32).toInt = 0 := (by decide +kernel); omega) hw103 (lv_sub hl106 [0, 1, 2, 3, 4, 5, 6] rfl)
      · skip
        have hc_31 := nleE (a := v_30.toInt) (b := x_25.toInt) rfl rfl c_31
        refine lv_iload (pc := 39) E.1 E.2.1 dX6_search_39 (lv_at hl29 0 rfl) ?_
        refine lv_aload_n (pc := 41) E.1 E.2.1 dX6_search_41 rfl (lv_at hl29 3 rfl) ?_
        refine x_get (pc := 42) (T := TX6) (N := 10) (ci := 6) (v := .ref (mr 4)) E hw28 inX6 0 3 q_1165 rfl rfl (by decide) rfl rfl dX6_search_42 ?_
        refine va_alen (pc := 45) E.1 E.2.1 E.2.2.2.2.2 hw28.1 1 1 rfl rfl (v := 10240) (show Int32.ofNat 10240 = 10240 from by decide +kernel) dX6_search_45 ?_
        refine lv_icmp_ge (pc := 46) (tgt := 65) E.1 E.2.1 dX6_search_46 (by decide) (fun c_154 => absurd c_154 (mnleE (a := 10240) (b := x_25.toInt) (by decide +kernel) rfl (by omega))) (fun _ => ?_)
        refine lv_aload_n (pc := 49) E.1 E.2.1 dX6_search_49 rfl (lv_at hl29 3 rfl) ?_
        refine x_get (pc := 50) (T := TX6) (N := 10) (ci := 6) (v := .ref (mr 4)) E hw28 inX6 0 3 q_1165 rfl rfl (by decide) rfl rfl dX6_search_50 ?_
        refine lv_iload (pc := 53) E.1 E.2.1 dX6_search_53 (lv_at hl29 0 rfl) ?_
        refine lv_ldc2 (pc := 55) (v := (-1)) E.1 E.2.1 E.2.2.2.1 (E.2.2.2.2.1 _ q_1206) dX6_search_55 ?_
        refine x_lastO (pc := 58) (f := g_26) (wf := fun g => (WZ_PV0 cI cJ mr (upd mi 8 nwants_7) (va_up (va_up (va_up (va_up mf 6 ghops_16) 7 gwanted_8) 49 gpmeasured_17) 50 gpmeasuredIn_18) (va_up mg 4 g))) E hw28 1 rfl (inbE (a := x_25.toInt) rfl (by omega)) (fun _ => rfl) dX6_search_58 (fun g_155 H locs hw156 => ?_)
        obtain ⟨v_157, ev_157⟩ : ∃ z : Int32, x_25 + Int32.ofInt (1) = z := ⟨_, rfl⟩
        have hv_157 : v_157.toInt = x_25.toInt + (1) := by rw [← ev_157]; exact incE rfl (by decide) (by omega)
        refine lv_iinc (pc := 59) (v := v_157) (lv' := [(5, .int v_157), (4, .int v_21), (3, .int (mi 40)), (0, .ref (mr 0)), (1, .ref (mr 11)), (2, .int z_n)]) E.1 E.2.1 dX6_search_59 hl29 (k := 0) rfl ev_157 (by decide) rfl (fun ls hl158 => ?_)
        refine lv_goto (pc := 62) (tgt := 30) E.1 E.2.1 dX6_search_62 (by decide) ?_
        exact ih_27 v_157 g_155 _ _ _ ⟨(by show 0 ≤ v_157.toInt; omega), (by show v_157.toInt ≤ 10240; omega)⟩ (by omega) hw156 (lv_sub hl158 [0, 1, 2, 3, 4, 5] rfl)
  exact loop_24 (Int.toNat (10240 - 0) + 1) 0 (mg 4) _ _ _ ⟨(by show 0 ≤ (0 : Int32).toInt; have k_0 : (0 : Int32).toInt = 0 := (by decide +kernel); omega), (by show (0 : Int32).toInt ≤ 10240; have k_0 : (0 : Int32).toInt = 0 := (by decide +kernel); omega)⟩ (by have k_0 : (0 : Int32).toInt = 0 := (by decide +kernel); omega) hw19 (lv_sub hl23 [0, 1, 2, 3, 4, 5] rfl)
set_option maxHeartbeats 4000000 in
set_option maxRecDepth 100000 in
theorem t_gatherNeeds1 (l : Launch) (D : va_G) (cI cJ : ClassId) (sz : Nat) (mr : Nat → Nat) (mi : Nat → Int32) (mf : Nat → Nat → Int32) (mg : Nat → Nat → Int64) (z_n : Int32) (h0 : 0 ≤ (mi 40).toInt ∧ (mi 40).toInt ≤ 10) (h1 : 0 ≤ (mi 49).toInt ∧ (mi 49).toInt ≤ 40) (h2 : 0 ≤ (mi 58).toInt ∧ (mi 58).toInt ≤ 10) (a_wanted : w9 (mf 7)) : Met l yX6_gatherNeeds (Cond.code yX6_gatherNeeds cX6_gatherNeeds 6 none :: GW) ({ frames := 1, cells := 0, slots := 0, locals := 40 } : Room) (va_Pc [.ref (mr 0), .ref (mr 11), .int z_n] (PW D cI cJ sz (WZ_PV1 cI cJ mr mi mf mg) xT)) (va_Qv (fun (u : Int32 × (Nat → Int32)) => (0 ≤ u.1.toInt) ∧ (u.1.toInt ≤ 10) ∧ (w9 u.2)) (fun u => QW D cI cJ (va_A (WZ_PV1 cI cJ mr mi mf mg) sz) ((fun (u : Int32 × (Nat → Int32)) => (WZ_PV1 cI cJ mr (upd mi 8 u.1) (va_up mf 7 u.2) mg)) u)) (va_A (WZ_PV1 cI cJ mr mi mf mg) sz)) 0 0 (va_A (WZ_PV1 cI cJ mr mi mf mg) sz) := by
  refine mk_met (y := yX6_gatherNeeds) (bytes := cX6_gatherNeeds) (maxL := 6) (avs := [.ref (mr 0), .ref (mr 11), .int z_n]) (WS := (WZ_PV1 cI cJ mr mi mf mg)) (Qf := fun A => va_Qv (fun (u : Int32 × (Nat → Int32)) => (0 ≤ u.1.toInt) ∧ (u.1.toInt ≤ 10) ∧ (w9 u.2)) (fun u => QW D cI cJ A ((fun (u : Int32 × (Nat → Int32)) => (WZ_PV1 cI cJ mr (upd mi 8 u.1) (va_up mf 7 u.2) mg)) u)) A) (by decide) (Nat.le_of_ble_eq_true rfl) ?_
  intro p e s m below meth c A ls E hr hlk hnm hX hw1 hl2
  have hl3 : lv_has ls 6 [(0, .ref (mr 0)), (1, .ref (mr 11)), (2, .int z_n)] := hl2
  refine lv_aload_n (pc := 0) E.1 E.2.1 dX6_gatherNeeds_0 rfl (lv_at hl3 1 rfl) ?_
  refine x_get (pc := 1) (T := TX10) (N := 17) (ci := 10) (v := .ref (mr 21)) E hw1 inX10 7 0 q_459 rfl rfl (by decide) rfl rfl dX6_gatherNeeds_1 ?_
  refine x_get (pc := 4) (T := TX4) (N := 12) (ci := 4) (v := .int (mi 29)) E hw1 inX4 13 7 q_218 rfl rfl (by decide) rfl rfl dX6_gatherNeeds_4 ?_
  refine lv_istore_n (pc := 7) (lv' := [(3, .int (mi 29)), (0, .ref (mr 0)), (1, .ref (mr 11)), (2, .int z_n)]) E.1 E.2.1 dX6_gatherNeeds_7 rfl hl3 (by decide) rfl (fun ls hl4 => ?_)
  refine lv_aload_n (pc := 8) E.1 E.2.1 dX6_gatherNeeds_8 rfl (lv_at hl4 1 rfl) ?_
  refine lv_iconst (pc := 9) (v := 0) E.1 E.2.1 dX6_gatherNeeds_9 (by decide +kernel) ?_
  refine x_put (pc := 10) (T := TX6) (N := 10) (ci := 6) (ws' := (WZ_PV1 cI cJ mr (upd mi 8 0) mf mg)) E hw1 inX6 tyX6_ok nmX6 0 7 q_1169 rfl rfl (by decide) rfl rfl rfl rfl (Nat.le_of_ble_eq_true rfl) rfl dX6_gatherNeeds_10 (fun H locs hw5 => ?_)
  refine lv_iconst (pc := 13) (v := 0) E.1 E.2.1 dX6_gatherNeeds_13 (by decide +kernel) ?_
  refine lv_istore (pc := 14) (lv' := [(4, .int 0), (3, .int (mi 29)), (0, .ref (mr 0)), (1, .ref (mr 11)), (2, .int z_n)]) E.1 E.2.1 dX6_gatherNeeds_14 hl4 (by decide) rfl (fun ls hl6 => ?_)
  have loop_7 : ∀ (k : Nat) (x_8 : Int32) (x_9 : Int32) (g_10 : Nat → Int32) (H : Heap) (locs : List Loc) (ls : Array Slot), (0 ≤ x_8.toInt) ∧ (x_8.toInt ≤ 10) ∧ (0 ≤ x_9.toInt) ∧ (x_9.toInt ≤ x_8.toInt) ∧ w9 g_10 → 10 - x_8.toInt < (k : Int) → WD D A s.heap (WZ_PV1 cI cJ mr (upd mi 8 x_9) (va_up mf 7 g_10) mg) H locs → lv_has ls 6 [(4, .int x_8), (3, .int (mi 29)), (0, .ref (mr 0)), (1, .ref (mr 11)), (2, .int z_n)] → W p l e ({ frames := 1, cells := 0, slots := 0, locals := 40 } : Room) s m ([.ref (mr 0), .ref (mr 11), .int z_n] : List Value).toArray below meth c H locs 0 0 (MQ below (va_Qv (fun (u : Int32 × (Nat → Int32)) => (0 ≤ u.1.toInt) ∧ (u.1.toInt ≤ 10) ∧ (w9 u.2)) (fun u => QW D cI cJ A ((fun (u : Int32 × (Nat → Int32)) => (WZ_PV1 cI cJ mr (upd mi 8 u.1) (va_up mf 7 u.2) mg)) u)) A) ([.ref (mr 0), .ref (mr 11), .int z_n] : List Value).toArray s 0 0 A) (F0 m 16 ls []) := by
    intro k
    induction k with
    | zero =>
      intro x_8 x_9 g_10 _ _ _ hinv hm
      obtain ⟨hi_10_0, hi_10_1, hi_10_2, hi_10_3, hi_10_4⟩ := hinv
      exact absurd hm (by omega)
    | succ k ih_11 =>
      intro x_8 x_9 g_10 H locs ls hinv hm hw12 hl13
      obtain ⟨hi_10_0, hi_10_1, hi_10_2, hi_10_3, hi_10_4⟩ := hinv
      refine lv_iload (pc := 16) E.1 E.2.1 dX6_gatherNeeds_16 (lv_at hl13 0 rfl) ?_
      refine lv_aload_n (pc := 18) E.1 E.2.1 dX6_gatherNeeds_18 rfl (lv_at hl13 3 rfl) ?_
      refine x_get (pc := 19) (T := TX10) (N := 17) (ci := 10) (v := .ref (mr 52)) E hw12 inX10 7 3 q_468 rfl rfl (by decide) rfl rfl dX6_gatherNeeds_19 ?_
      refine x_get (pc := 22) (T := TX3) (N := 6) (ci := 3) (v := .int (mi 58)) E hw12 inX3 35 5 q_362 rfl rfl (by decide) rfl rfl dX6_gatherNeeds_22 ?_
      refine lv_icmp_ge (pc := 25) (tgt := 134) E.1 E.2.1 dX6_gatherNeeds_25 (by decide) (fun c_14 => ?_) (fun c_14 => ?_)
      · skip
        have hc_14 := leE (a := (mi 58).toInt) (b := x_8.toInt) rfl rfl c_14
        exact em_v (w1 := (fun (u : Int32 × (Nat → Int32)) => (WZ_PV1 cI cJ mr (upd mi 8 u.1) (va_up mf 7 u.2) mg))) E hr hlk (x_9, g_10) hw12 ⟨(by show 0 ≤ x_9.toInt; omega), (by show x_9.toInt ≤ 10; omega), hi_10_4⟩ (Nat.le_of_ble_eq_true rfl) (Nat.le_of_ble_eq_true rfl) dX6_gatherNeeds_134
      · skip
        have hc_14 := nleE (a := (mi 58).toInt) (b := x_8.toInt) rfl rfl c_14
        refine lv_iload (pc := 28) E.1 E.2.1 dX6_gatherNeeds_28 (lv_at hl13 0 rfl) ?_
        refine lv_bipush (pc := 30) (v := 10) E.1 E.2.1 dX6_gatherNeeds_30 (by decide +kernel) ?_
        refine lv_icmp_ge (pc := 32) (tgt := 134) E.1 E.2.1 dX6_gatherNeeds_32 (by decide) (fun c_15 => absurd c_15 (mnleE (a := 10) (b := x_8.toInt) (by decide +kernel) rfl (by omega))) (fun _ => ?_)
        refine lv_aload_n (pc := 35) E.1 E.2.1 dX6_gatherNeeds_35 rfl (lv_at hl13 3 rfl) ?_
        refine x_get (pc := 36) (T := TX10) (N := 17) (ci := 10) (v := .ref (mr 21)) E hw12 inX10 7 0 q_459 rfl rfl (by decide) rfl rfl dX6_gatherNeeds_36 ?_
        refine x_get (pc := 39) (T := TX4) (N := 12) (ci := 4) (v := .ref (mr 26)) E hw12 inX4 13 4 q_204 rfl rfl (by decide) rfl rfl dX6_gatherNeeds_39 ?_
        refine lv_iload (pc := 42) E.1 E.2.1 dX6_gatherNeeds_42 (lv_at hl13 0 rfl) ?_
        refine x_iald (pc := 44) (f := (mf 26)) E hw12 18 rfl (inbE (a := x_8.toInt) rfl (by omega)) dX6_gatherNeeds_44 ?_
        refine lv_topi (fun v_16 ev_16 => ?_)
        refine lv_iconst (pc := 45) (v := (-1)) E.1 E.2.1 dX6_gatherNeeds_45 (by decide +kernel) ?_
        refine lv_icmp_ne (pc := 46) (tgt := 65) E.1 E.2.1 dX6_gatherNeeds_46 (by decide) (fun c_17 => ?_) (fun c_17 => ?_)
        · skip
          have hc_17 := neE (a := v_16.toInt) (b := (-1)) rfl (by decide +kernel) c_17
          refine lv_iconst (pc := 65) (v := 1) E.1 E.2.1 dX6_gatherNeeds_65 (by decide +kernel) ?_
          refine lv_goto (pc := 66) (tgt := 70) E.1 E.2.1 dX6_gatherNeeds_66 (by decide) ?_
          refine lv_istore (pc := 70) (lv' := [(5, .int 1), (4, .int x_8), (3, .int (mi 29)), (0, .ref (mr 0)), (1, .ref (mr 11)), (2, .int z_n)]) E.1 E.2.1 dX6_gatherNeeds_70 hl13 (by decide) rfl (fun ls hl18 => ?_)
          refine lv_iload (pc := 72) E.1 E.2.1 dX6_gatherNeeds_72 (lv_at hl18 0 rfl) ?_
          refine lv_if_ne (pc := 74) (tgt := 128) E.1 E.2.1 dX6_gatherNeeds_74 (by decide) (fun _ => ?_) (fun c_19 => absurd c_19 (mneE (a := 1) (b := 0) (by decide +kernel) (by decide +kernel) (by omega)))
          obtain ⟨v_20, ev_20⟩ : ∃ z : Int32, x_8 + Int32.ofInt (1) = z := ⟨_, rfl⟩
          have hv_20 : v_20.toInt = x_8.toInt + (1) := by rw [← ev_20]; exact incE rfl (by decide) (by omega)
          refine lv_iinc (pc := 128) (v := v_20) (lv' := [(4, .int v_20), (5, .int 1), (3, .int (mi 29)), (0, .ref (mr 0)), (1, .ref (mr 11)), (2, .int z_n)]) E.1 E.2.1 dX6_gatherNeeds_128 hl18 (k := 1) rfl ev_20 (by decide) rfl (fun ls hl21 => ?_)
          refine lv_goto (pc := 131) (tgt := 16) E.1 E.2.1 dX6_gatherNeeds_131 (by decide) ?_
          exact ih_11 v_20 x_9 g_10 _ _ _ ⟨(by show 0 ≤ v_20.toInt; omega), (by show v_20.toInt ≤ 10; omega), (by show 0 ≤ x_9.toInt; omega), (by show x_9.toInt ≤ v_20.toInt; omega), hi_10_4⟩ (by omega) hw12 (lv_sub hl21 [0, 2, 3, 4, 5] rfl)
        · skip
          have hc_17 := eqE (a := v_16.toInt) (b := (-1)) rfl (by decide +kernel) c_17
          refine lv_aload_n (pc := 49) E.1 E.2.1 dX6_gatherNeeds_49 rfl (lv_at hl13 3 rfl) ?_
          refine x_get (pc := 50) (T := TX10) (N := 17) (ci := 10) (v := .ref (mr 21)) E hw12 inX10 7 0 q_459 rfl rfl (by decide) rfl rfl dX6_gatherNeeds_50 ?_
          refine x_get (pc := 53) (T := TX4) (N := 12) (ci := 4) (v := .int (mi 27)) E hw12 inX4 13 5 q_209 rfl rfl (by decide) rfl rfl dX6_gatherNeeds_53 ?_
          refine lv_iload (pc := 56) E.1 E.2.1 dX6_gatherNeeds_56 (lv_at hl13 0 rfl) ?_
          refine lv_ishr (pc := 58) E.1 E.2.1 dX6_gatherNeeds_58 ?_
          refine lv_topi (fun v_22 ev_22 => ?_)
          refine lv_iconst (pc := 59) (v := 1) E.1 E.2.1 dX6_gatherNeeds_59 (by decide +kernel) ?_
          refine lv_iand (pc := 60) E.1 E.2.1 dX6_gatherNeeds_60 ?_
          refine lv_topi (fun v_23 ev_23 => ?_)
          refine lv_iconst (pc := 61) (v := 1) E.1 E.2.1 dX6_gatherNeeds_61 (by decide +kernel) ?_
          refine lv_icmp_ne (pc := 62) (tgt := 69) E.1 E.2.1 dX6_gatherNeeds_62 (by decide) (fun c_24 => ?_) (fun c_24 => ?_)
          · skip
            have hc_24 := neE (a := v_23.toInt) (b := 1) rfl (by decide +kernel) c_24
            refine lv_iconst (pc := 69) (v := 0) E.1 E.2.1 dX6_gatherNeeds_69 (by decide +kernel) ?_
            refine lv_istore (pc := 70) (lv' := [(5, .int 0), (4, .int x_8), (3, .int (mi 29)), (0, .ref (mr 0)), (1, .ref (mr 11)), (2, .int z_n)]) E.1 E.2.1 dX6_gatherNeeds_70 hl13 (by decide) rfl (fun ls hl25 => ?_)
            refine lv_iload (pc := 72) E.1 E.2.1 dX6_gatherNeeds_72 (lv_at hl25 0 rfl) ?_
            refine lv_if_ne (pc := 74) (tgt := 128) E.1 E.2.1 dX6_gatherNeeds_74 (by decide) (fun c_26 => absurd (meqE (a := 0) (b := 0) (by decide +kernel) (by decide +kernel) (by omega)) c_26) (fun _ => ?_)
            refine lv_aload_n (pc := 77) E.1 E.2.1 dX6_gatherNeeds_77 rfl (lv_at hl25 4 rfl) ?_
            refine x_get (pc := 78) (T := TX10) (N := 17) (ci := 10) (v := .ref (mr 52)) E hw12 inX10 7 3 q_468 rfl rfl (by decide) rfl rfl dX6_gatherNeeds_78 ?_
            refine x_get (pc := 81) (T := TX3) (N := 6) (ci := 3) (v := .ref (mr 55)) E hw12 inX3 35 2 q_352 rfl rfl (by decide) rfl rfl dX6_gatherNeeds_81 ?_
            refine lv_iload (pc := 84) E.1 E.2.1 dX6_gatherNeeds_84 (lv_at hl25 1 rfl) ?_
            refine x_iald (pc := 86) (f := (mf 55)) E hw12 38 rfl (inbE (a := x_8.toInt) rfl (by omega)) dX6_gatherNeeds_86 ?_
            refine lv_topi (fun v_27 ev_27 => ?_)
            refine lv_iload_n (pc := 87) E.1 E.2.1 dX6_gatherNeeds_87 rfl (lv_at hl25 2 rfl) ?_
            refine lv_iload_n (pc := 88) E.1 E.2.1 dX6_gatherNeeds_88 rfl (lv_at hl25 5 rfl) ?_
            refine lv_iadd (pc := 89) E.1 E.2.1 dX6_gatherNeeds_89 ?_
            refine lv_topi (fun v_28 ev_28 => ?_)
            refine lv_icmp_ge (pc := 90) (tgt := 128) E.1 E.2.1 dX6_gatherNeeds_90 (by decide) (fun c_29 => ?_) (fun c_29 => ?_)
            · skip
              have hc_29 := leE (a := v_28.toInt) (b := v_27.toInt) rfl rfl c_29
              obtain ⟨v_30, ev_30⟩ : ∃ z : Int32, x_8 + Int32.ofInt (1) = z := ⟨_, rfl⟩
              have hv_30 : v_30.toInt = x_8.toInt + (1) := by rw [← ev_30]; exact incE rfl (by decide) (by omega)
              refine lv_iinc (pc := 128) (v := v_30) (lv' := [(4, .int v_30), (5, .int 0), (3, .int (mi 29)), (0, .ref (mr 0)), (1, .ref (mr 11)), (2, .int z_n)]) E.1 E.2.1 dX6_gatherNeeds_128 hl25 (k := 1) rfl ev_30 (by decide) rfl (fun ls hl31 => ?_)
              refine lv_goto (pc := 131) (tgt := 16) E.1 E.2.1 dX6_gatherNeeds_131 (by decide) ?_
              exact ih_11 v_30 x_9 g_10 _ _ _ ⟨(by show 0 ≤ v_30.toInt; omega), (by show v_30.toInt ≤ 10; omega), (by show 0 ≤ x_9.toInt; omega), (by show x_9.toInt ≤ v_30.toInt; omega), hi_10_4⟩ (by omega) hw12 (lv_sub hl31 [0, 2, 3, 4, 5] rfl)
            · skip
              have hc_29 := nleE (a := v_28.toInt) (b := v_27.toInt) rfl rfl c_29
              refine lv_aload_n (pc := 93) E.1 E.2.1 dX6_gatherNeeds_93 rfl (lv_at hl25 4 rfl) ?_
              refine x_get (pc := 94) (T := TX10) (N := 17) (ci := 10) (v := .ref (mr 52)) E hw12 inX10 7 3 q_468 rfl rfl (by decide) rfl rfl dX6_gatherNeeds_94 ?_
              refine x_get (pc := 97) (T := TX3) (N := 6) (ci := 3) (v := .ref (mr 56)) E hw12 inX3 35 3 q_355 rfl rfl (by decide) rfl rfl dX6_gatherNeeds_97 ?_
              refine lv_iload (pc := 100) E.1 E.2.1 dX6_gatherNeeds_100 (lv_at hl25 1 rfl) ?_
              refine x_iald (pc := 102) (f := (mf 56)) E hw12 39 rfl (inbE (a := x_8.toInt) rfl (by omega)) dX6_gatherNeeds_102 ?_
              refine lv_topi (fun v_32 ev_32 => ?_)
              refine lv_iload_n (pc := 103) E.1 E.2.1 dX6_gatherNeeds_103 rfl (lv_at hl25 2 rfl) ?_
              refine lv_icmp_lt (pc := 104) (tgt := 128) E.1 E.2.1 dX6_gatherNeeds_104 (by decide) (fun c_33 => ?_) (fun c_33 => ?_)
              · skip
                have hc_33 := ltE (a := v_32.toInt) (b := (mi 29).toInt) rfl rfl c_33
                obtain ⟨v_34, ev_34⟩ : ∃ z : Int32, x_8 + Int32.ofInt (1) = z := ⟨_, rfl⟩
                have hv_34 : v_34.toInt = x_8.toInt + (1) := by rw [← ev_34]; exact incE rfl (by decide) (by omega)
                refine lv_iinc (pc := 128) (v := v_34) (lv' := [(4, .int v_34), (5, .int 0), (3, .int (mi 29)), (0, .ref (mr 0)), (1, .ref (mr 11)), (2, .int z_n)]) E.1 E.2.1 dX6_gatherNeeds_128 hl25 (k := 1) rfl ev_34 (by decide) rfl (fun ls hl35 => ?_)
                refine lv_goto (pc := 131) (tgt := 16) E.1 E.2.1 dX6_gatherNeeds_131 (by decide) ?_
                exact ih_11 v_34 x_9 g_10 _ _ _ ⟨(by show 0 ≤ v_34.toInt; omega), (by show v_34.toInt ≤ 10; omega), (by show 0 ≤ x_9.toInt; omega), (by show x_9.toInt ≤ v_34.toInt; omega), hi_10_4⟩ (by omega) hw12 (lv_sub hl35 [0, 2, 3, 4, 5] rfl)
              · skip
                have hc_33 := nltE (a := v_32.toInt) (b := (mi 29).toInt) rfl rfl c_33
                refine lv_aload_n (pc := 107) E.1 E.2.1 dX6_gatherNeeds_107 rfl (lv_at hl25 3 rfl) ?_
                refine x_get (pc := 108) (T := TX6) (N := 10) (ci := 6) (v := .ref (mr 7)) E hw12 inX6 0 6 q_1168 rfl rfl (by decide) rfl rfl dX6_gatherNeeds_108 ?_
                refine lv_aload_n (pc := 111) E.1 E.2.1 dX6_gatherNeeds_111 rfl (lv_at hl25 3 rfl) ?_
                refine x_get (pc := 112) (T := TX6) (N := 10) (ci := 6) (v := .int x_9) E hw12 inX6 0 7 q_1169 rfl rfl (by decide) rfl rfl dX6_gatherNeeds_112 ?_
                refine lv_iload (pc := 115) E.1 E.2.1 dX6_gatherNeeds_115 (lv_at hl25 1 rfl) ?_
                refine x_iastG (pc := 117) (f := g_10) (wf := fun g => (WZ_PV1 cI cJ mr (upd mi 8 x_9) (va_up mf 7 g) mg)) E hw12 4 rfl (inbE (a := x_9.toInt) rfl (by omega)) (fun _ => rfl) dX6_gatherNeeds_117 (fun g_36 H locs eg_36 hw37 => ?_)
                have ha_38 : allR 10 (0) 9 g_36 := allR_upd hi_10_4 eg_36 (by omega)
                refine lv_aload_n (pc := 118) E.1 E.2.1 dX6_gatherNeeds_118 rfl (lv_at hl25 3 rfl) ?_
                refine lv_dup (pc := 119) E.1 E.2.1 dX6_gatherNeeds_119 rfl ?_
                refine x_get (pc := 120) (T := TX6) (N := 10) (ci := 6) (v := .int x_9) E hw37 inX6 0 7 q_1169 rfl rfl (by decide) rfl rfl dX6_gatherNeeds_120 ?_
                refine lv_iconst (pc := 123) (v := 1) E.1 E.2.1 dX6_gatherNeeds_123 (by decide +kernel) ?_
                refine lv_iadd (pc := 124) E.1 E.2.1 dX6_gatherNeeds_124 ?_
                refine lv_topi (fun v_39 ev_39 => ?_)
                have hv_39 : v_39.toInt = x_9.toInt + 1 := by rw [ev_39]; exact addE rfl (by decide +kernel) (by omega)
                refine x_put (pc := 125) (T := TX6) (N := 10) (ci := 6) (ws' := (WZ_PV1 cI cJ mr (upd mi 8 v_39) (va_up mf 7 g_36) mg)) E hw37 inX6 tyX6_ok nmX6 0 7 q_1169 rfl rfl (by decide) rfl rfl rfl rfl (Nat.le_of_ble_eq_true rfl) rfl dX6_gatherNeeds_125 (fun H locs hw40 => ?_)
                obtain ⟨v_41, ev_41⟩ : ∃ z : Int32, x_8 + Int32.ofInt (1) = z := ⟨_, rfl⟩
                have hv_41 : v_41.toInt = x_8.toInt + (1) := by rw [← ev_41]; exact incE rfl (by decide) (by omega)
                refine lv_iinc (pc := 128) (v := v_41) (lv' := [(4, .int v_41), (5, .int 0), (3, .int (mi 29)), (0, .ref (mr 0)), (1, .ref (mr 11)), (2, .int z_n)]) E.1 E.2.1 dX6_gatherNeeds_128 hl25 (k := 1) rfl ev_41 (by decide) rfl (fun ls hl42 => ?_)
                refine lv_goto (pc := 131) (tgt := 16) E.1 E.2.1 dX6_gatherNeeds_131 (by decide) ?_
                exact ih_11 v_41 v_39 g_36 _ _ _ ⟨(by show 0 ≤ v_41.toInt; omega), (by show v_41.toInt ≤ 10; omega), (by show 0 ≤ v_39.toInt; omega), (by show v_39.toInt ≤ v_41.toInt; omega), ha_38⟩ (by omega) hw40 (lv_sub hl42 [0, 2, 3, 4, 5] rfl)
          · skip
            have hc_24 := eqE (a := v_23.toInt) (b := 1) rfl (by decide +kernel) c_24
            refine lv_iconst (pc := 65) (v := 1) E.1 E.2.1 dX6_gatherNeeds_65 (by decide +kernel) ?_
            refine lv_goto (pc := 66) (tgt := 70) E.1 E.2.1 dX6_gatherNeeds_66 (by decide) ?_
            refine lv_istore (pc := 70) (lv' := [(5, .int 1), (4, .int x_8), (3, .int (mi 29)), (0, .ref (mr 0)), (1, .ref (mr 11)), (2, .int z_n)]) E.1 E.2.1 dX6_gatherNeeds_70 hl13 (by decide) rfl (fun ls hl43 => ?_)
            refine lv_iload (pc := 72) E.1 E.2.1 dX6_gatherNeeds_72 (lv_at hl43 0 rfl) ?_
            refine lv_if_ne (pc := 74) (tgt := 128) E.1 E.2.1 dX6_gatherNeeds_74 (by decide) (fun _ => ?_) (fun c_44 => absurd c_44 (mneE (a := 1) (b := 0) (by decide +kernel) (by decide +kernel) (by omega)))
            obtain ⟨v_45, ev_45⟩ : ∃ z : Int32, x_8 + Int32.ofInt (1) = z := ⟨_, rfl⟩
            have hv_45 : v_45.toInt = x_8.toInt + (1) := by rw [← ev_45]; exact incE rfl (by decide) (by omega)
            refine lv_iinc (pc := 128) (v := v_45) (lv' := [(4, .int v_45), (5, .int 1), (3, .int (mi 29)), (0, .ref (mr 0)), (1, .ref (mr 11)), (2, .int z_n)]) E.1 E.2.1 dX6_gatherNeeds_128 hl43 (k := 1) rfl ev_45 (by decide) rfl (fun ls hl46 => ?_)
            refine lv_goto (pc := 131) (tgt := 16) E.1 E.2.1 dX6_gatherNeeds_131 (by decide) ?_
            exact ih_11 v_45 x_9 g_10 _ _ _ ⟨(by show 0 ≤ v_45.toInt; omega), (by show v_45.toInt ≤ 10; omega), (by show 0 ≤ x_9.toInt; omega), (by show x_9.toInt ≤ v_45.toInt; omega), hi_10_4⟩ (by omega) hw12 (lv_sub hl46 [0, 2, 3, 4, 5] rfl)
  exact loop_7 (Int.toNat (10 - 0) + 1) 0 0 (mf 7) _ _ _ ⟨(by show 0 ≤ (0 : Int32).toInt; have k_0 : (0 : Int32).toInt = 0 := (by decide +kernel); omega), (by show (0 : Int32).toInt ≤ 10; have k_0 : (0 : Int32).toInt = 0 := (by decide +kernel); omega), (by show 0 ≤ (0 : Int32).toInt; have k_0 : (0 : Int32).toInt = 0 := (by decide +kernel); omega), (by show (0 : Int32).toInt ≤ (0 : Int32).toInt; have k_0 : (0 : Int32).toInt = 0 := (by decide +kernel); omega), a_wanted⟩ (by have k_0 : (0 : Int32).toInt = 0 := (by decide +kernel); have k_1 : (0 : Int32).toInt = 0 := (by decide +kernel); omega) hw5 (lv_sub hl6 [0, 1, 2, 3, 4] rfl)
set_option maxHeartbeats 4000000 in
set_option maxRecDepth 100000 in
theorem t_gatherHops1 (l : Launch) (D : va_G) (cI cJ : ClassId) (sz : Nat) (mr : Nat → Nat) (mi : Nat → Int32) (mf : Nat → Nat → Int32) (mg : Nat → Nat → Int64)  (h0 : 0 ≤ (mi 40).toInt ∧ (mi 40).toInt ≤ 10) (h1 : 0 ≤ (mi 49).toInt ∧ (mi 49).toInt ≤ 40) (h2 : 0 ≤ (mi 58).toInt ∧ (mi 58).toInt ≤ 10) (a_p_from : p9 (mf 45)) (a_p_to : p9 (mf 46)) : Met l yX6_gatherHops (Cond.code yX6_gatherHops cX6_gatherHops 5 none :: GW) ({ frames := 4, cells := 0, slots := 0, locals := 115 } : Room) (va_Pc [.ref (mr 0), .ref (mr 11)] (PW D cI cJ sz (WZ_PV1 cI cJ mr mi mf mg) xT)) (va_Qv (fun (u : (Nat → Int32) × (Nat → Int32) × (Nat → Int32)) => True) (fun u => QW D cI cJ (va_A (WZ_PV1 cI cJ mr mi mf mg) sz) ((fun (u : (Nat → Int32) × (Nat → Int32) × (Nat → Int32)) => (WZ_PV1 cI cJ mr mi (va_up (va_up (va_up mf 6 u.1) 50 u.2.1) 51 u.2.2) mg)) u)) (va_A (WZ_PV1 cI cJ mr mi mf mg) sz)) 0 0 (va_A (WZ_PV1 cI cJ mr mi mf mg) sz) := by
  refine mk_met (y := yX6_gatherHops) (bytes := cX6_gatherHops) (maxL := 5) (avs := [.ref (mr 0), .ref (mr 11)]) (WS := (WZ_PV1 cI cJ mr mi mf mg)) (Qf := fun A => va_Qv (fun (u : (Nat → Int32) × (Nat → Int32) × (Nat → Int32)) => True) (fun u => QW D cI cJ A ((fun (u : (Nat → Int32) × (Nat → Int32) × (Nat → Int32)) => (WZ_PV1 cI cJ mr mi (va_up (va_up (va_up mf 6 u.1) 50 u.2.1) 51 u.2.2) mg)) u)) A) (by decide) (Nat.le_of_ble_eq_true rfl) ?_
  intro p e s m below meth c A ls E hr hlk hnm hX hw1 hl2
  have hl3 : lv_has ls 5 [(0, .ref (mr 0)), (1, .ref (mr 11))] := hl2
  refine lv_iconst (pc := 0) (v := 0) E.1 E.2.1 dX6_gatherHops_0 (by decide +kernel) ?_
  refine lv_istore_n (pc := 1) (lv' := [(2, .int 0), (0, .ref (mr 0)), (1, .ref (mr 11))]) E.1 E.2.1 dX6_gatherHops_1 rfl hl3 (by decide) rfl (fun ls hl4 => ?_)
  have loop_5 : ∀ (k : Nat) (x_6 : Int32) (g_7 : Nat → Int32) (g_8 : Nat → Int32) (g_9 : Nat → Int32) (H : Heap) (locs : List Loc) (ls : Array Slot), (0 ≤ x_6.toInt) ∧ (x_6.toInt ≤ (mi 40).toInt) → (mi 40).toInt - x_6.toInt < (k : Int) → WD D A s.heap (WZ_PV1 cI cJ mr mi (va_up (va_up (va_up mf 6 g_7) 50 g_8) 51 g_9) mg) H locs → lv_has ls 5 [(2, .int x_6), (0, .ref (mr 0)), (1, .ref (mr 11))] → W p l e ({ frames := 4, cells := 0, slots := 0, locals := 115 } : Room) s m ([.ref (mr 0), .ref (mr 11)] : List Value).toArray below meth c H locs 0 0 (MQ below (va_Qv (fun (u : (Nat → Int32) × (Nat → Int32) × (Nat → Int32)) => True) (fun u => QW D cI cJ A ((fun (u : (Nat → Int32) × (Nat → Int32) × (Nat → Int32)) => (WZ_PV1 cI cJ mr mi (va_up (va_up (va_up mf 6 u.1) 50 u.2.1) 51 u.2.2) mg)) u)) A) ([.ref (mr 0), .ref (mr 11)] : List Value).toArray s 0 0 A) (F0 m 2 ls []) := by
    intro k
    induction k with
    | zero =>
      intro x_6 g_7 g_8 g_9 _ _ _ hinv hm
      obtain ⟨hi_9_0, hi_9_1⟩ := hinv
      exact absurd hm (by omega)
    | succ k ih_10 =>
      intro x_6 g_7 g_8 g_9 H locs ls hinv hm hw11 hl12
      obtain ⟨hi_9_0, hi_9_1⟩ := hinv
      refine lv_iload_n (pc := 2) E.1 E.2.1 dX6_gatherHops_2 rfl (lv_at hl12 0 rfl) ?_
      refine lv_aload_n (pc := 3) E.1 E.2.1 dX6_gatherHops_3 rfl (lv_at hl12 2 rfl) ?_
      refine x_get (pc := 4) (T := TX10) (N := 17) (ci := 10) (v := .ref (mr 34)) E hw11 inX10 7 1 q_462 rfl rfl (by decide) rfl rfl dX6_gatherHops_4 ?_
      refine x_get (pc := 7) (T := TX1) (N := 9) (ci := 1) (v := .int (mi 40)) E hw11 inX1 19 5 q_280 rfl rfl (by decide) rfl rfl dX6_gatherHops_7 ?_
      refine lv_icmp_ge (pc := 10) (tgt := 82) E.1 E.2.1 dX6_gatherHops_10 (by decide) (fun c_13 => ?_) (fun c_13 => ?_)
      · skip
        have hc_13 := leE (a := (mi 40).toInt) (b := x_6.toInt) rfl rfl c_13
        exact em_v (w1 := (fun (u : (Nat → Int32) × (Nat → Int32) × (Nat → Int32)) => (WZ_PV1 cI cJ mr mi (va_up (va_up (va_up mf 6 u.1) 50 u.2.1) 51 u.2.2) mg))) E hr hlk (g_7, g_8, g_9) hw11 trivial (Nat.le_of_ble_eq_true rfl) (Nat.le_of_ble_eq_true rfl) dX6_gatherHops_82
      · skip
        have hc_13 := nleE (a := (mi 40).toInt) (b := x_6.toInt) rfl rfl c_13
        refine lv_iconst (pc := 13) (v := 0) E.1 E.2.1 dX6_gatherHops_13 (by decide +kernel) ?_
        refine lv_istore_n (pc := 14) (lv' := [(3, .int 0), (2, .int x_6), (0, .ref (mr 0)), (1, .ref (mr 11))]) E.1 E.2.1 dX6_gatherHops_14 rfl hl12 (by decide) rfl (fun ls hl14 => ?_)
        have loop_15 : ∀ (k : Nat) (x_16 : Int32) (g_17 : Nat → Int32) (g_18 : Nat → Int32) (g_19 : Nat → Int32) (H : Heap) (locs : List Loc) (ls : Array Slot), (0 ≤ x_16.toInt) ∧ (x_16.toInt ≤ (mi 40).toInt) → (mi 40).toInt - x_16.toInt < (k : Int) → WD D A s.heap (WZ_PV1 cI cJ mr mi (va_up (va_up (va_up mf 6 g_17) 50 g_18) 51 g_19) mg) H locs → lv_has ls 5 [(3, .int x_16), (2, .int x_6), (0, .ref (mr 0)), (1, .ref (mr 11))] → W p l e ({ frames := 4, cells := 0, slots := 0, locals := 115 } : Room) s m ([.ref (mr 0), .ref (mr 11)] : List Value).toArray below meth c H locs 0 0 (MQ below (va_Qv (fun (u : (Nat → Int32) × (Nat → Int32) × (Nat → Int32)) => True) (fun u => QW D cI cJ A ((fun (u : (Nat → Int32) × (Nat → Int32) × (Nat → Int32)) => (WZ_PV1 cI cJ mr mi (va_up (va_up (va_up mf 6 u.1) 50 u.2.1) 51 u.2.2) mg)) u)) A) ([.ref (mr 0), .ref (mr 11)] : List Value).toArray s 0 0 A) (F0 m 15 ls []) := by
          intro k
          induction k with
          | zero =>
            intro x_16 g_17 g_18 g_19 _ _ _ hinv hm
            obtain ⟨hi_19_0, hi_19_1⟩ := hinv
            exact absurd hm (by omega)
          | succ k ih_20 =>
            intro x_16 g_17 g_18 g_19 H locs ls hinv hm hw21 hl22
            obtain ⟨hi_19_0, hi_19_1⟩ := hinv
            refine lv_iload_n (pc := 15) E.1 E.2.1 dX6_gatherHops_15 rfl (lv_at hl22 0 rfl) ?_
            refine lv_aload_n (pc := 16) E.1 E.2.1 dX6_gatherHops_16 rfl (lv_at hl22 3 rfl) ?_
            refine x_get (pc := 17) (T := TX10) (N := 17) (ci := 10) (v := .ref (mr 34)) E hw21 inX10 7 1 q_462 rfl rfl (by decide) rfl rfl dX6_gatherHops_17 ?_
            refine x_get (pc := 20) (T := TX1) (N := 9) (ci := 1) (v := .int (mi 40)) E hw21 inX1 19 5 q_280 rfl rfl (by decide) rfl rfl dX6_gatherHops_20 ?_
            refine lv_icmp_ge (pc := 23) (tgt := 76) E.1 E.2.1 dX6_gatherHops_23 (by decide) (fun c_23 => ?_) (fun c_23 => ?_)
            · skip
              have hc_23 := leE (a := (mi 40).toInt) (b := x_16.toInt) rfl rfl c_23
              obtain ⟨v_24, ev_24⟩ : ∃ z : Int32, x_6 + Int32.ofInt (1) = z := ⟨_, rfl⟩
              have hv_24 : v_24.toInt = x_6.toInt + (1) := by rw [← ev_24]; exact incE rfl (by decide) (by omega)
              refine lv_iinc (pc := 76) (v := v_24) (lv' := [(2, .int v_24), (3, .int x_16), (0, .ref (mr 0)), (1, .ref (mr 11))]) E.1 E.2.1 dX6_gatherHops_76 hl22 (k := 1) rfl ev_24 (by decide) rfl (fun ls hl25 => ?_)
              refine lv_goto (pc := 79) (tgt := 2) E.1 E.2.1 dX6_gatherHops_79 (by decide) ?_
              exact ih_10 v_24 g_17 g_18 g_19 _ _ _ ⟨(by show 0 ≤ v_24.toInt; omega), (by show v_24.toInt ≤ (mi 40).toInt; omega)⟩ (by omega) hw21 (lv_sub hl25 [0, 2, 3] rfl)
            · skip
              have hc_23 := nleE (a := (mi 40).toInt) (b := x_16.toInt) rfl rfl c_23
              refine lv_aload_n (pc := 26) E.1 E.2.1 dX6_gatherHops_26 rfl (lv_at hl22 3 rfl) ?_
              refine x_get (pc := 27) (T := TX10) (N := 17) (ci := 10) (v := .ref (mr 44)) E hw21 inX10 7 2 q_465 rfl rfl (by decide) rfl rfl dX6_gatherHops_27 ?_
              refine lv_iload_n (pc := 30) E.1 E.2.1 dX6_gatherHops_30 rfl (lv_at hl22 1 rfl) ?_
              refine lv_iload_n (pc := 31) E.1 E.2.1 dX6_gatherHops_31 rfl (lv_at hl22 0 rfl) ?_
              refine lv_aload_n (pc := 32) E.1 E.2.1 dX6_gatherHops_32 rfl (lv_at hl22 3 rfl) ?_
              refine x_get (pc := 33) (T := TX10) (N := 17) (ci := 10) (v := .ref (mr 21)) E hw21 inX10 7 0 q_459 rfl rfl (by decide) rfl rfl dX6_gatherHops_33 ?_
              refine x_get (pc := 36) (T := TX4) (N := 12) (ci := 4) (v := .int (mi 30)) E hw21 inX4 13 8 q_224 rfl rfl (by decide) rfl rfl dX6_gatherHops_36 ?_
              refine cq_i (pc := 39) (ws' := (fun (u : (Nat → Int32) × (Nat → Int32)) => (WZ_PV1 cI cJ mr mi (va_up (va_up (va_up mf 6 g_17) 50 u.1) 51 u.2) mg))) hw21 [28, 29, 30, 31, 32, 33, 34] [0, 1, 2, 3, 4, 5, 6, 7, 8, 9, 10, 11, 12, 13, 14, 15, 16, 17, 18, 19, 20, 21, 22, 23, 24, 25, 26, 27, 35, 36, 37, 38, 39, 40, 41, 42, 43, 44, 45, 46, 47, 48, 49, 50, 51, 52, 53, 54, 55, 56, 57] [0, 1, 2, 3, 4, 5, 6, 7, 8, 9, 10, 11, 12, 13, 14, 15, 16, 17, 18, 19, 20, 21, 22, 23, 24, 25, 26, 27, 51, 52, 53, 54, 55, 56, 57, 28, 29, 30, 31, 32, 33, 34, 35, 36, 37, 38, 39, 40, 41, 42, 43, 44, 45, 46, 47, 48, 49, 50] rfl rfl (by decide) (by decide) (fun _ => rfl) (by decide) (rn_V (As := [.int x_6, .int x_16, .int (mi 30)]) (rest := []) E hw21 (t_apart l D cI cJ _ (ixf [44, 45, 46, 47, 48, 49, 50, 51] mr) (ixf [44, 45, 46, 47, 48, 49, 50, 51] mi) (ixf [44, 45, 46, 47, 48, 49, 50, 51] (va_up (va_up (va_up mf 6 g_17) 50 g_18) 51 g_19)) (ixf [44, 45, 46, 47, 48, 49, 50, 51] mg) x_6 x_16 (mi 30) (by show 0 ≤ (mi 49).toInt ∧ (mi 49).toInt ≤ 40; omega) a_p_from a_p_to) (gdV q_1205 q_1017 q_1018 q_155 q_1019) hdV_X5_apart ⟨rfl, rfl⟩ ⟨(Nat.le_of_ble_eq_true rfl), (Nat.le_of_ble_eq_true rfl)⟩ ⟨(Nat.le_of_ble_eq_true rfl), (Nat.le_of_ble_eq_true rfl)⟩ xT_b xT_at 28 5 rfl rfl rfl [28, 29, 30, 31, 32, 33, 34] rfl (by decide) rfl hl22.1 rfl (Nat.le_of_ble_eq_true rfl) dX6_gatherHops_39) (fun r_27 u_26 H1 locs hp hw28 => ?_)
              obtain ⟨gmeasured_29, gmeasuredIn_30⟩ := u_26
              generalize H1 = H at hw28 ⊢
              have hw31 : WD D A s.heap (WZ_PV1 cI cJ mr mi (va_up (va_up (va_up mf 6 g_17) 50 gmeasured_29) 51 gmeasuredIn_30) mg) H locs := hw28
              refine lv_istore (pc := 42) (lv' := [(4, .int r_27), (3, .int x_16), (2, .int x_6), (0, .ref (mr 0)), (1, .ref (mr 11))]) E.1 E.2.1 dX6_gatherHops_42 hl22 (by decide) rfl (fun ls hl32 => ?_)
              refine lv_aload_n (pc := 44) E.1 E.2.1 dX6_gatherHops_44 rfl (lv_at hl32 3 rfl) ?_
              refine x_get (pc := 45) (T := TX6) (N := 10) (ci := 6) (v := .ref (mr 6)) E hw31 inX6 0 5 q_1167 rfl rfl (by decide) rfl rfl dX6_gatherHops_45 ?_
              refine lv_iload_n (pc := 48) E.1 E.2.1 dX6_gatherHops_48 rfl (lv_at hl32 2 rfl) ?_
              refine lv_bipush (pc := 49) (v := 10) E.1 E.2.1 dX6_gatherHops_49 (by decide +kernel) ?_
              refine lv_imul (pc := 51) E.1 E.2.1 dX6_gatherHops_51 ?_
              refine lv_topi (fun v_33 ev_33 => ?_)
              have hv_33 : v_33.toInt = x_6.toInt * 10 := by rw [ev_33]; exact mulE rfl (by decide +kernel) (by omega)
              refine lv_iload_n (pc := 52) E.1 E.2.1 dX6_gatherHops_52 rfl (lv_at hl32 1 rfl) ?_
              refine lv_iadd (pc := 53) E.1 E.2.1 dX6_gatherHops_53 ?_
              refine lv_topi (fun v_34 ev_34 => ?_)
              have hv_34 : v_34.toInt = v_33.toInt + x_16.toInt := by rw [ev_34]; exact addE rfl rfl (by omega)
              refine lv_iload (pc := 54) E.1 E.2.1 dX6_gatherHops_54 (lv_at hl32 0 rfl) ?_
              refine lv_aload_n (pc := 56) E.1 E.2.1 dX6_gatherHops_56 rfl (lv_at hl32 4 rfl) ?_
              refine x_get (pc := 57) (T := TX10) (N := 17) (ci := 10) (v := .int (mi 15)) E hw31 inX10 7 11 q_486 rfl rfl (by decide) rfl rfl dX6_gatherHops_57 ?_
              refine lv_icmp_gt (pc := 60) (tgt := 68) E.1 E.2.1 dX6_gatherHops_60 (by decide) (fun c_35 => ?_) (fun c_35 => ?_)
              · skip
                have hc_35 := ltE (a := (mi 15).toInt) (b := r_27.toInt) rfl rfl c_35
                refine lv_iconst (pc := 68) (v := (-1)) E.1 E.2.1 dX6_gatherHops_68 (by decide +kernel) ?_
                refine x_iastG (pc := 69) (f := g_17) (wf := fun g => (WZ_PV1 cI cJ mr mi (va_up (va_up (va_up mf 6 g) 50 gmeasured_29) 51 gmeasuredIn_30) mg)) E hw31 3 rfl (inbE (a := v_34.toInt) rfl (by omega)) (fun _ => rfl) dX6_gatherHops_69 (fun g_36 H locs eg_36 hw37 => ?_)
                obtain ⟨v_38, ev_38⟩ : ∃ z : Int32, x_16 + Int32.ofInt (1) = z := ⟨_, rfl⟩
                have hv_38 : v_38.toInt = x_16.toInt + (1) := by rw [← ev_38]; exact incE rfl (by decide) (by omega)
                refine lv_iinc (pc := 70) (v := v_38) (lv' := [(3, .int v_38), (4, .int r_27), (2, .int x_6), (0, .ref (mr 0)), (1, .ref (mr 11))]) E.1 E.2.1 dX6_gatherHops_70 hl32 (k := 1) rfl ev_38 (by decide) rfl (fun ls hl39 => ?_)
                refine lv_goto (pc := 73) (tgt := 15) E.1 E.2.1 dX6_gatherHops_73 (by decide) ?_
                exact ih_20 v_38 g_36 gmeasured_29 gmeasuredIn_30 _ _ _ ⟨(by show 0 ≤ v_38.toInt; omega), (by show v_38.toInt ≤ (mi 40).toInt; omega)⟩ (by omega) hw37 (lv_sub hl39 [0, 2, 3, 4] rfl)
              · skip
                have hc_35 := nltE (a := (mi 15).toInt) (b := r_27.toInt) rfl rfl c_35
                refine lv_iload (pc := 63) E.1 E.2.1 dX6_gatherHops_63 (lv_at hl32 0 rfl) ?_
                refine lv_goto (pc := 65) (tgt := 69) E.1 E.2.1 dX6_gatherHops_65 (by decide) ?_
                refine x_iastG (pc := 69) (f := g_17) (wf := fun g => (WZ_PV1 cI cJ mr mi (va_up (va_up (va_up mf 6 g) 50 gmeasured_29) 51 gmeasuredIn_30) mg)) E hw31 3 rfl (inbE (a := v_34.toInt) rfl (by omega)) (fun _ => rfl) dX6_gatherHops_69 (fun g_40 H locs eg_40 hw41 => ?_)
                obtain ⟨v_42, ev_42⟩ : ∃ z : Int32, x_16 + Int32.ofInt (1) = z := ⟨_, rfl⟩
                have hv_42 : v_42.toInt = x_16.toInt + (1) := by rw [← ev_42]; exact incE rfl (by decide) (by omega)
                refine lv_iinc (pc := 70) (v := v_42) (lv' := [(3, .int v_42), (4, .int r_27), (2, .int x_6), (0, .ref (mr 0)), (1, .ref (mr 11))]) E.1 E.2.1 dX6_gatherHops_70 hl32 (k := 1) rfl ev_42 (by decide) rfl (fun ls hl43 => ?_)
                refine lv_goto (pc := 73) (tgt := 15) E.1 E.2.1 dX6_gatherHops_73 (by decide) ?_
                exact ih_20 v_42 g_40 gmeasured_29 gmeasuredIn_30 _ _ _ ⟨(by show 0 ≤ v_42.toInt; omega), (by show v_42.toInt ≤ (mi 40).toInt; omega)⟩ (by omega) hw41 (lv_sub hl43 [0, 2, 3, 4] rfl)
        exact loop_15 (Int.toNat ((mi 40).toInt - 0) + 1) 0 g_7 g_8 g_9 _ _ _ ⟨(by show 0 ≤ (0 : Int32).toInt; have k_0 : (0 : Int32).toInt = 0 := (by decide +kernel); omega), (by show (0 : Int32).toInt ≤ (mi 40).toInt; have k_0 : (0 : Int32).toInt = 0 := (by decide +kernel); omega)⟩ (by have k_0 : (0 : Int32).toInt = 0 := (by decide +kernel); omega) hw11 (lv_sub hl14 [0, 1, 2, 3] rfl)
  exact loop_5 (Int.toNat ((mi 40).toInt - 0) + 1) 0 (mf 6) (mf 50) (mf 51) _ _ _ ⟨(by show 0 ≤ (0 : Int32).toInt; have k_0 : (0 : Int32).toInt = 0 := (by decide +kernel); omega), (by show (0 : Int32).toInt ≤ (mi 40).toInt; have k_0 : (0 : Int32).toInt = 0 := (by decide +kernel); omega)⟩ (by have k_0 : (0 : Int32).toInt = 0 := (by decide +kernel); omega) hw1 (lv_sub hl4 [0, 1, 2] rfl)
set_option maxHeartbeats 4000000 in
set_option maxRecDepth 100000 in
theorem t_gatherServed1 (l : Launch) (D : va_G) (cI cJ : ClassId) (sz : Nat) (mr : Nat → Nat) (mi : Nat → Int32) (mf : Nat → Nat → Int32) (mg : Nat → Nat → Int64) (z_k : Int32) (h0 : 0 ≤ (mi 40).toInt ∧ (mi 40).toInt ≤ 10) (h1 : 0 ≤ (mi 49).toInt ∧ (mi 49).toInt ≤ 40) (h2 : 0 ≤ (mi 58).toInt ∧ (mi 58).toInt ≤ 10) (h3 : 0 ≤ (mi 8).toInt ∧ (mi 8).toInt ≤ 10) (a_served : s1k (mf 9)) (a_wed : s1k (mf 10)) (a_wanted : w9 (mf 7)) : Met l yX6_gatherServed (Cond.code yX6_gatherServed cX6_gatherServed 7 none :: GW) ({ frames := 1, cells := 0, slots := 0, locals := 40 } : Room) (va_Pc [.ref (mr 0), .ref (mr 11), .int z_k] (PW D cI cJ sz (WZ_PV1 cI cJ mr mi mf mg) xT)) (va_Qv (fun (u : (Nat → Int32) × (Nat → Int32)) => (s1k u.1) ∧ (s1k u.2)) (fun u => QW D cI cJ (va_A (WZ_PV1 cI cJ mr mi mf mg) sz) ((fun (u : (Nat → Int32) × (Nat → Int32)) => (WZ_PV1 cI cJ mr mi (va_up (va_up mf 9 u.1) 10 u.2) mg)) u)) (va_A (WZ_PV1 cI cJ mr mi mf mg) sz)) 0 0 (va_A (WZ_PV1 cI cJ mr mi mf mg) sz) := by
  refine mk_met (y := yX6_gatherServed) (bytes := cX6_gatherServed) (maxL := 7) (avs := [.ref (mr 0), .ref (mr 11), .int z_k]) (WS := (WZ_PV1 cI cJ mr mi mf mg)) (Qf := fun A => va_Qv (fun (u : (Nat → Int32) × (Nat → Int32)) => (s1k u.1) ∧ (s1k u.2)) (fun u => QW D cI cJ A ((fun (u : (Nat → Int32) × (Nat → Int32)) => (WZ_PV1 cI cJ mr mi (va_up (va_up mf 9 u.1) 10 u.2) mg)) u)) A) (by decide) (Nat.le_of_ble_eq_true rfl) ?_
  intro p e s m below meth c A ls E hr hlk hnm hX hw1 hl2
  have hl3 : lv_has ls 7 [(0, .ref (mr 0)), (1, .ref (mr 11)), (2, .int z_k)] := hl2
  refine lv_aload_n (pc := 0) E.1 E.2.1 dX6_gatherServed_0 rfl (lv_at hl3 1 rfl) ?_
  refine x_get (pc := 1) (T := TX10) (N := 17) (ci := 10) (v := .ref (mr 21)) E hw1 inX10 7 0 q_459 rfl rfl (by decide) rfl rfl dX6_gatherServed_1 ?_
  refine x_get (pc := 4) (T := TX4) (N := 12) (ci := 4) (v := .int (mi 29)) E hw1 inX4 13 7 q_218 rfl rfl (by decide) rfl rfl dX6_gatherServed_4 ?_
  refine lv_iload_n (pc := 7) E.1 E.2.1 dX6_gatherServed_7 rfl (lv_at hl3 2 rfl) ?_
  refine lv_iadd (pc := 8) E.1 E.2.1 dX6_gatherServed_8 ?_
  refine lv_topi (fun v_4 ev_4 => ?_)
  refine lv_istore_n (pc := 9) (lv' := [(3, .int v_4), (0, .ref (mr 0)), (1, .ref (mr 11)), (2, .int z_k)]) E.1 E.2.1 dX6_gatherServed_9 rfl hl3 (by decide) rfl (fun ls hl5 => ?_)
  refine lv_iconst (pc := 10) (v := 0) E.1 E.2.1 dX6_gatherServed_10 (by decide +kernel) ?_
  refine lv_istore (pc := 11) (lv' := [(4, .int 0), (3, .int v_4), (0, .ref (mr 0)), (1, .ref (mr 11)), (2, .int z_k)]) E.1 E.2.1 dX6_gatherServed_11 hl5 (by decide) rfl (fun ls hl6 => ?_)
  have loop_7 : ∀ (k : Nat) (x_8 : Int32) (g_9 : Nat → Int32) (g_10 : Nat → Int32) (H : Heap) (locs : List Loc) (ls : Array Slot), (0 ≤ x_8.toInt) ∧ (x_8.toInt ≤ 10) ∧ s1k g_9 ∧ s1k g_10 → 10 - x_8.toInt < (k : Int) → WD D A s.heap (WZ_PV1 cI cJ mr mi (va_up (va_up mf 9 g_9) 10 g_10) mg) H locs → lv_has ls 7 [(4, .int x_8), (3, .int v_4), (0, .ref (mr 0)), (1, .ref (mr 11)), (2, .int z_k)] → W p l e ({ frames := 1, cells := 0, slots := 0, locals := 40 } : Room) s m ([.ref (mr 0), .ref (mr 11), .int z_k] : List Value).toArray below meth c H locs 0 0 (MQ below (va_Qv (fun (u : (Nat → Int32) × (Nat → Int32)) => (s1k u.1) ∧ (s1k u.2)) (fun u => QW D cI cJ A ((fun (u : (Nat → Int32) × (Nat → Int32)) => (WZ_PV1 cI cJ mr mi (va_up (va_up mf 9 u.1) 10 u.2) mg)) u)) A) ([.ref (mr 0), .ref (mr 11), .int z_k] : List Value).toArray s 0 0 A) (F0 m 13 ls []) := by
    intro k
    induction k with
    | zero =>
      intro x_8 g_9 g_10 _ _ _ hinv hm
      obtain ⟨hi_10_0, hi_10_1, hi_10_2, hi_10_3⟩ := hinv
      exact absurd hm (by omega)
    | succ k ih_11 =>
      intro x_8 g_9 g_10 H locs ls hinv hm hw12 hl13
      obtain ⟨hi_10_0, hi_10_1, hi_10_2, hi_10_3⟩ := hinv
      refine lv_iload (pc := 13) E.1 E.2.1 dX6_gatherServed_13 (lv_at hl13 0 rfl) ?_
      refine lv_bipush (pc := 15) (v := 10) E.1 E.2.1 dX6_gatherServed_15 (by decide +kernel) ?_
      refine lv_icmp_ge (pc := 17) (tgt := 42) E.1 E.2.1 dX6_gatherServed_17 (by decide) (fun c_14 => ?_) (fun c_14 => ?_)
      · skip
        have hc_14 := leE (a := 10) (b := x_8.toInt) (by decide +kernel) rfl c_14
        refine lv_iconst (pc := 42) (v := 0) E.1 E.2.1 dX6_gatherServed_42 (by decide +kernel) ?_
        refine lv_istore (pc := 43) (lv' := [(4, .int 0), (3, .int v_4), (0, .ref (mr 0)), (1, .ref (mr 11)), (2, .int z_k)]) E.1 E.2.1 dX6_gatherServed_43 hl13 (by decide) rfl (fun ls hl15 => ?_)
        have loop_16 : ∀ (k : Nat) (x_17 : Int32) (g_18 : Nat → Int32) (g_19 : Nat → Int32) (H : Heap) (locs : List Loc) (ls : Array Slot), (0 ≤ x_17.toInt) ∧ (x_17.toInt ≤ (mi 8).toInt) ∧ s1k g_18 ∧ s1k g_19 → (mi 8).toInt - x_17.toInt < (k : Int) → WD D A s.heap (WZ_PV1 cI cJ mr mi (va_up (va_up mf 9 g_18) 10 g_19) mg) H locs → lv_has ls 7 [(4, .int x_17), (3, .int v_4), (0, .ref (mr 0)), (1, .ref (mr 11)), (2, .int z_k)] → W p l e ({ frames := 1, cells := 0, slots := 0, locals := 40 } : Room) s m ([.ref (mr 0), .ref (mr 11), .int z_k] : List Value).toArray below meth c H locs 0 0 (MQ below (va_Qv (fun (u : (Nat → Int32) × (Nat → Int32)) => (s1k u.1) ∧ (s1k u.2)) (fun u => QW D cI cJ A ((fun (u : (Nat → Int32) × (Nat → Int32)) => (WZ_PV1 cI cJ mr mi (va_up (va_up mf 9 u.1) 10 u.2) mg)) u)) A) ([.ref (mr 0), .ref (mr 11), .int z_k] : List Value).toArray s 0 0 A) (F0 m 45 ls []) := by
          intro k
          induction k with
          | zero =>
            intro x_17 g_18 g_19 _ _ _ hinv hm
            obtain ⟨hi_19_0, hi_19_1, hi_19_2, hi_19_3⟩ := hinv
            exact absurd hm (by omega)
          | succ k ih_20 =>
            intro x_17 g_18 g_19 H locs ls hinv hm hw21 hl22
            obtain ⟨hi_19_0, hi_19_1, hi_19_2, hi_19_3⟩ := hinv
            refine lv_iload (pc := 45) E.1 E.2.1 dX6_gatherServed_45 (lv_at hl22 0 rfl) ?_
            refine lv_aload_n (pc := 47) E.1 E.2.1 dX6_gatherServed_47 rfl (lv_at hl22 2 rfl) ?_
            refine x_get (pc := 48) (T := TX6) (N := 10) (ci := 6) (v := .int (mi 8)) E hw21 inX6 0 7 q_1169 rfl rfl (by decide) rfl rfl dX6_gatherServed_48 ?_
            refine lv_icmp_ge (pc := 51) (tgt := 163) E.1 E.2.1 dX6_gatherServed_51 (by decide) (fun c_23 => ?_) (fun c_23 => ?_)
            · skip
              have hc_23 := leE (a := (mi 8).toInt) (b := x_17.toInt) rfl rfl c_23
              exact em_v (w1 := (fun (u : (Nat → Int32) × (Nat → Int32)) => (WZ_PV1 cI cJ mr mi (va_up (va_up mf 9 u.1) 10 u.2) mg))) E hr hlk (g_18, g_19) hw21 ⟨hi_19_2, hi_19_3⟩ (Nat.le_of_ble_eq_true rfl) (Nat.le_of_ble_eq_true rfl) dX6_gatherServed_163
            · skip
              have hc_23 := nleE (a := (mi 8).toInt) (b := x_17.toInt) rfl rfl c_23
              refine lv_aload_n (pc := 54) E.1 E.2.1 dX6_gatherServed_54 rfl (lv_at hl22 2 rfl) ?_
              refine x_get (pc := 55) (T := TX6) (N := 10) (ci := 6) (v := .ref (mr 7)) E hw21 inX6 0 6 q_1168 rfl rfl (by decide) rfl rfl dX6_gatherServed_55 ?_
              refine lv_iload (pc := 58) E.1 E.2.1 dX6_gatherServed_58 (lv_at hl22 0 rfl) ?_
              refine x_iald (pc := 60) (f := (mf 7)) E hw21 4 rfl (inbE (a := x_17.toInt) rfl (by omega)) dX6_gatherServed_60 ?_
              refine lv_topi (fun v_24 ev_24 => ?_)
              have hbv_24 := allR_at (n := 10) (lo := 0) (hi := 9) a_wanted ev_24 (by show 0 ≤ x_17.toInt ∧ _; omega)
              refine lv_istore (pc := 61) (lv' := [(5, .int v_24), (4, .int x_17), (3, .int v_4), (0, .ref (mr 0)), (1, .ref (mr 11)), (2, .int z_k)]) E.1 E.2.1 dX6_gatherServed_61 hl22 (by decide) rfl (fun ls hl25 => ?_)
              refine lv_aload_n (pc := 63) E.1 E.2.1 dX6_gatherServed_63 rfl (lv_at hl25 4 rfl) ?_
              refine x_get (pc := 64) (T := TX10) (N := 17) (ci := 10) (v := .ref (mr 52)) E hw21 inX10 7 3 q_468 rfl rfl (by decide) rfl rfl dX6_gatherServed_64 ?_
              refine x_get (pc := 67) (T := TX3) (N := 6) (ci := 3) (v := .ref (mr 54)) E hw21 inX3 35 1 q_348 rfl rfl (by decide) rfl rfl dX6_gatherServed_67 ?_
              refine lv_iload (pc := 70) E.1 E.2.1 dX6_gatherServed_70 (lv_at hl25 0 rfl) ?_
              refine x_iald (pc := 72) (f := (mf 54)) E hw21 37 rfl (inbE (a := v_24.toInt) rfl (by omega)) dX6_gatherServed_72 ?_
              refine lv_topi (fun v_26 ev_26 => ?_)
              refine lv_istore (pc := 73) (lv' := [(6, .int v_26), (5, .int v_24), (4, .int x_17), (3, .int v_4), (0, .ref (mr 0)), (1, .ref (mr 11)), (2, .int z_k)]) E.1 E.2.1 dX6_gatherServed_73 hl25 (by decide) rfl (fun ls hl27 => ?_)
              refine lv_iload_n (pc := 75) E.1 E.2.1 dX6_gatherServed_75 rfl (lv_at hl27 3 rfl) ?_
              refine lv_aload_n (pc := 76) E.1 E.2.1 dX6_gatherServed_76 rfl (lv_at hl27 5 rfl) ?_
              refine x_get (pc := 77) (T := TX10) (N := 17) (ci := 10) (v := .ref (mr 52)) E hw21 inX10 7 3 q_468 rfl rfl (by decide) rfl rfl dX6_gatherServed_77 ?_
              refine x_get (pc := 80) (T := TX3) (N := 6) (ci := 3) (v := .ref (mr 55)) E hw21 inX3 35 2 q_352 rfl rfl (by decide) rfl rfl dX6_gatherServed_80 ?_
              refine lv_iload (pc := 83) E.1 E.2.1 dX6_gatherServed_83 (lv_at hl27 1 rfl) ?_
              refine x_iald (pc := 85) (f := (mf 55)) E hw21 38 rfl (inbE (a := v_24.toInt) rfl (by omega)) dX6_gatherServed_85 ?_
              refine lv_topi (fun v_28 ev_28 => ?_)
              refine lv_icmp_lt (pc := 86) (tgt := 157) E.1 E.2.1 dX6_gatherServed_86 (by decide) (fun c_29 => ?_) (fun c_29 => ?_)
              · skip
                have hc_29 := ltE (a := v_4.toInt) (b := v_28.toInt) rfl rfl c_29
                obtain ⟨v_30, ev_30⟩ : ∃ z : Int32, x_17 + Int32.ofInt (1) = z := ⟨_, rfl⟩
                have hv_30 : v_30.toInt = x_17.toInt + (1) := by rw [← ev_30]; exact incE rfl (by decide) (by omega)
                refine lv_iinc (pc := 157) (v := v_30) (lv' := [(4, .int v_30), (6, .int v_26), (5, .int v_24), (3, .int v_4), (0, .ref (mr 0)), (1, .ref (mr 11)), (2, .int z_k)]) E.1 E.2.1 dX6_gatherServed_157 hl27 (k := 2) rfl ev_30 (by decide) rfl (fun ls hl31 => ?_)
                refine lv_goto (pc := 160) (tgt := 45) E.1 E.2.1 dX6_gatherServed_160 (by decide) ?_
                exact ih_20 v_30 g_18 g_19 _ _ _ ⟨(by show 0 ≤ v_30.toInt; omega), (by show v_30.toInt ≤ (mi 8).toInt; omega), hi_19_2, hi_19_3⟩ (by omega) hw21 (lv_sub hl31 [0, 3, 4, 5, 6] rfl)
              · skip
                have hc_29 := nltE (a := v_4.toInt) (b := v_28.toInt) rfl rfl c_29
                refine lv_iload_n (pc := 89) E.1 E.2.1 dX6_gatherServed_89 rfl (lv_at hl27 3 rfl) ?_
                refine lv_aload_n (pc := 90) E.1 E.2.1 dX6_gatherServed_90 rfl (lv_at hl27 5 rfl) ?_
                refine x_get (pc := 91) (T := TX10) (N := 17) (ci := 10) (v := .ref (mr 52)) E hw21 inX10 7 3 q_468 rfl rfl (by decide) rfl rfl dX6_gatherServed_91 ?_
                refine x_get (pc := 94) (T := TX3) (N := 6) (ci := 3) (v := .ref (mr 56)) E hw21 inX3 35 3 q_355 rfl rfl (by decide) rfl rfl dX6_gatherServed_94 ?_
                refine lv_iload (pc := 97) E.1 E.2.1 dX6_gatherServed_97 (lv_at hl27 1 rfl) ?_
                refine x_iald (pc := 99) (f := (mf 56)) E hw21 39 rfl (inbE (a := v_24.toInt) rfl (by omega)) dX6_gatherServed_99 ?_
                refine lv_topi (fun v_32 ev_32 => ?_)
                refine lv_icmp_gt (pc := 100) (tgt := 157) E.1 E.2.1 dX6_gatherServed_100 (by decide) (fun c_33 => ?_) (fun c_33 => ?_)
                · skip
                  have hc_33 := ltE (a := v_32.toInt) (b := v_4.toInt) rfl rfl c_33
                  obtain ⟨v_34, ev_34⟩ : ∃ z : Int32, x_17 + Int32.ofInt (1) = z := ⟨_, rfl⟩
                  have hv_34 : v_34.toInt = x_17.toInt + (1) := by rw [← ev_34]; exact incE rfl (by decide) (by omega)
                  refine lv_iinc (pc := 157) (v := v_34) (lv' := [(4, .int v_34), (6, .int v_26), (5, .int v_24), (3, .int v_4), (0, .ref (mr 0)), (1, .ref (mr 11)), (2, .int z_k)]) E.1 E.2.1 dX6_gatherServed_157 hl27 (k := 2) rfl ev_34 (by decide) rfl (fun ls hl35 => ?_)
                  refine lv_goto (pc := 160) (tgt := 45) E.1 E.2.1 dX6_gatherServed_160 (by decide) ?_
                  exact ih_20 v_34 g_18 g_19 _ _ _ ⟨(by show 0 ≤ v_34.toInt; omega), (by show v_34.toInt ≤ (mi 8).toInt; omega), hi_19_2, hi_19_3⟩ (by omega) hw21 (lv_sub hl35 [0, 3, 4, 5, 6] rfl)
                · skip
                  have hc_33 := nltE (a := v_32.toInt) (b := v_4.toInt) rfl rfl c_33
                  refine lv_iload (pc := 103) E.1 E.2.1 dX6_gatherServed_103 (lv_at hl27 0 rfl) ?_
                  refine lv_if_lt (pc := 105) (tgt := 157) E.1 E.2.1 dX6_gatherServed_105 (by decide) (fun c_36 => ?_) (fun c_36 => ?_)
                  · skip
                    have hc_36 := ltE (a := v_26.toInt) (b := 0) rfl (by decide +kernel) c_36
                    obtain ⟨v_37, ev_37⟩ : ∃ z : Int32, x_17 + Int32.ofInt (1) = z := ⟨_, rfl⟩
                    have hv_37 : v_37.toInt = x_17.toInt + (1) := by rw [← ev_37]; exact incE rfl (by decide) (by omega)
                    refine lv_iinc (pc := 157) (v := v_37) (lv' := [(4, .int v_37), (6, .int v_26), (5, .int v_24), (3, .int v_4), (0, .ref (mr 0)), (1, .ref (mr 11)), (2, .int z_k)]) E.1 E.2.1 dX6_gatherServed_157 hl27 (k := 2) rfl ev_37 (by decide) rfl (fun ls hl38 => ?_)
                    refine lv_goto (pc := 160) (tgt := 45) E.1 E.2.1 dX6_gatherServed_160 (by decide) ?_
                    exact ih_20 v_37 g_18 g_19 _ _ _ ⟨(by show 0 ≤ v_37.toInt; omega), (by show v_37.toInt ≤ (mi 8).toInt; omega), hi_19_2, hi_19_3⟩ (by omega) hw21 (lv_sub hl38 [0, 3, 4, 5, 6] rfl)
                  · skip
                    have hc_36 := nltE (a := v_26.toInt) (b := 0) rfl (by decide +kernel) c_36
                    refine lv_iload (pc := 108) E.1 E.2.1 dX6_gatherServed_108 (lv_at hl27 0 rfl) ?_
                    refine lv_bipush (pc := 110) (v := 10) E.1 E.2.1 dX6_gatherServed_110 (by decide +kernel) ?_
                    refine lv_icmp_ge (pc := 112) (tgt := 157) E.1 E.2.1 dX6_gatherServed_112 (by decide) (fun c_39 => ?_) (fun c_39 => ?_)
                    · skip
                      have hc_39 := leE (a := 10) (b := v_26.toInt) (by decide +kernel) rfl c_39
                      obtain ⟨v_40, ev_40⟩ : ∃ z : Int32, x_17 + Int32.ofInt (1) = z := ⟨_, rfl⟩
                      have hv_40 : v_40.toInt = x_17.toInt + (1) := by rw [← ev_40]; exact incE rfl (by decide) (by omega)
                      refine lv_iinc (pc := 157) (v := v_40) (lv' := [(4, .int v_40), (6, .int v_26), (5, .int v_24), (3, .int v_4), (0, .ref (mr 0)), (1, .ref (mr 11)), (2, .int z_k)]) E.1 E.2.1 dX6_gatherServed_157 hl27 (k := 2) rfl ev_40 (by decide) rfl (fun ls hl41 => ?_)
                      refine lv_goto (pc := 160) (tgt := 45) E.1 E.2.1 dX6_gatherServed_160 (by decide) ?_
                      exact ih_20 v_40 g_18 g_19 _ _ _ ⟨(by show 0 ≤ v_40.toInt; omega), (by show v_40.toInt ≤ (mi 8).toInt; omega), hi_19_2, hi_19_3⟩ (by omega) hw21 (lv_sub hl41 [0, 3, 4, 5, 6] rfl)
                    · skip
                      have hc_39 := nleE (a := 10) (b := v_26.toInt) (by decide +kernel) rfl c_39
                      refine lv_aload_n (pc := 115) E.1 E.2.1 dX6_gatherServed_115 rfl (lv_at hl27 4 rfl) ?_
                      refine x_get (pc := 116) (T := TX6) (N := 10) (ci := 6) (v := .ref (mr 10)) E hw21 inX6 0 9 q_1171 rfl rfl (by decide) rfl rfl dX6_gatherServed_116 ?_
                      refine lv_iload (pc := 119) E.1 E.2.1 dX6_gatherServed_119 (lv_at hl27 0 rfl) ?_
                      refine lv_dup2_11 (pc := 121) E.1 E.2.1 dX6_gatherServed_121 rfl rfl ?_
                      refine x_iald (pc := 122) (f := g_19) E hw21 6 rfl (inbE (a := v_26.toInt) rfl (by omega)) dX6_gatherServed_122 ?_
                      refine lv_topi (fun v_42 ev_42 => ?_)
                      have hbv_42 := allR_at (n := 10) (lo := 0) (hi := 1023) hi_19_3 ev_42 (by show 0 ≤ v_26.toInt ∧ _; omega)
                      refine lv_iconst (pc := 123) (v := 1) E.1 E.2.1 dX6_gatherServed_123 (by decide +kernel) ?_
                      refine lv_iload (pc := 124) E.1 E.2.1 dX6_gatherServed_124 (lv_at hl27 2 rfl) ?_
                      refine lv_ishl (pc := 126) E.1 E.2.1 dX6_gatherServed_126 ?_
                      refine lv_topi (fun v_43 ev_43 => ?_)
                      have hb1v_43 : 1 ≤ v_43.toInt ∧ v_43.toInt ≤ 512 := by rw [ev_43]; exact shl9 (by omega)
                      refine lv_ior (pc := 127) E.1 E.2.1 dX6_gatherServed_127 ?_
                      refine lv_topi (fun v_44 ev_44 => ?_)
                      have hb1v_44 : 0 ≤ v_44.toInt ∧ v_44.toInt ≤ 1023 := by rw [ev_44]; exact or10 (by omega) (by omega)
                      refine x_iastG (pc := 128) (f := g_19) (wf := fun g => (WZ_PV1 cI cJ mr mi (va_up (va_up mf 9 g_18) 10 g) mg)) E hw21 6 rfl (inbE (a := v_26.toInt) rfl (by omega)) (fun _ => rfl) dX6_gatherServed_128 (fun g_45 H locs eg_45 hw46 => ?_)
                      have ha_47 : allR 10 (0) 1023 g_45 := allR_upd hi_19_3 eg_45 (by omega)
                      refine lv_aload_n (pc := 129) E.1 E.2.1 dX6_gatherServed_129 rfl (lv_at hl27 5 rfl) ?_
                      refine x_get (pc := 130) (T := TX10) (N := 17) (ci := 10) (v := .ref (mr 52)) E hw46 inX10 7 3 q_468 rfl rfl (by decide) rfl rfl dX6_gatherServed_130 ?_
                      refine x_get (pc := 133) (T := TX3) (N := 6) (ci := 3) (v := .ref (mr 53)) E hw46 inX3 35 0 q_344 rfl rfl (by decide) rfl rfl dX6_gatherServed_133 ?_
                      refine lv_iload (pc := 136) E.1 E.2.1 dX6_gatherServed_136 (lv_at hl27 1 rfl) ?_
                      refine x_iald (pc := 138) (f := (mf 53)) E hw46 36 rfl (inbE (a := v_24.toInt) rfl (by omega)) dX6_gatherServed_138 ?_
                      refine lv_topi (fun v_48 ev_48 => ?_)
                      refine lv_iconst (pc := 139) (v := 3) E.1 E.2.1 dX6_gatherServed_139 (by decide +kernel) ?_
                      refine lv_icmp_eq (pc := 140) (tgt := 157) E.1 E.2.1 dX6_gatherServed_140 (by decide) (fun c_49 => ?_) (fun c_49 => ?_)
                      · skip
                        have hc_49 := eqE (a := v_48.toInt) (b := 3) rfl (by decide +kernel) c_49
                        obtain ⟨v_50, ev_50⟩ : ∃ z : Int32, x_17 + Int32.ofInt (1) = z := ⟨_, rfl⟩
                        have hv_50 : v_50.toInt = x_17.toInt + (1) := by rw [← ev_50]; exact incE rfl (by decide) (by omega)
                        refine lv_iinc (pc := 157) (v := v_50) (lv' := [(4, .int v_50), (6, .int v_26), (5, .int v_24), (3, .int v_4), (0, .ref (mr 0)), (1, .ref (mr 11)), (2, .int z_k)]) E.1 E.2.1 dX6_gatherServed_157 hl27 (k := 2) rfl ev_50 (by decide) rfl (fun ls hl51 => ?_)
                        refine lv_goto (pc := 160) (tgt := 45) E.1 E.2.1 dX6_gatherServed_160 (by decide) ?_
                        exact ih_20 v_50 g_18 g_45 _ _ _ ⟨(by show 0 ≤ v_50.toInt; omega), (by show v_50.toInt ≤ (mi 8).toInt; omega), hi_19_2, ha_47⟩ (by omega) hw46 (lv_sub hl51 [0, 3, 4, 5, 6] rfl)
                      · skip
                        have hc_49 := neE (a := v_48.toInt) (b := 3) rfl (by decide +kernel) c_49
                        refine lv_aload_n (pc := 143) E.1 E.2.1 dX6_gatherServed_143 rfl (lv_at hl27 4 rfl) ?_
                        refine x_get (pc := 144) (T := TX6) (N := 10) (ci := 6) (v := .ref (mr 9)) E hw46 inX6 0 8 q_1170 rfl rfl (by decide) rfl rfl dX6_gatherServed_144 ?_
                        refine lv_iload (pc := 147) E.1 E.2.1 dX6_gatherServed_147 (lv_at hl27 0 rfl) ?_
                        refine lv_dup2_11 (pc := 149) E.1 E.2.1 dX6_gatherServed_149 rfl rfl ?_
                        refine x_iald (pc := 150) (f := g_18) E hw46 5 rfl (inbE (a := v_26.toInt) rfl (by omega)) dX6_gatherServed_150 ?_
                        refine lv_topi (fun v_52 ev_52 => ?_)
                        have hbv_52 := allR_at (n := 10) (lo := 0) (hi := 1023) hi_19_2 ev_52 (by show 0 ≤ v_26.toInt ∧ _; omega)
                        refine lv_iconst (pc := 151) (v := 1) E.1 E.2.1 dX6_gatherServed_151 (by decide +kernel) ?_
                        refine lv_iload (pc := 152) E.1 E.2.1 dX6_gatherServed_152 (lv_at hl27 2 rfl) ?_
                        refine lv_ishl (pc := 154) E.1 E.2.1 dX6_gatherServed_154 ?_
                        refine lv_topi (fun v_53 ev_53 => ?_)
                        have hb1v_53 : 1 ≤ v_53.toInt ∧ v_53.toInt ≤ 512 := by rw [ev_53]; exact shl9 (by omega)
                        refine lv_ior (pc := 155) E.1 E.2.1 dX6_gatherServed_155 ?_
                        refine lv_topi (fun v_54 ev_54 => ?_)
                        have hb1v_54 : 0 ≤ v_54.toInt ∧ v_54.toInt ≤ 1023 := by rw [ev_54]; exact or10 (by omega) (by omega)
                        refine x_iastG (pc := 156) (f := g_18) (wf := fun g => (WZ_PV1 cI cJ mr mi (va_up (va_up mf 9 g) 10 g_45) mg)) E hw46 5 rfl (inbE (a := v_26.toInt) rfl (by omega)) (fun _ => rfl) dX6_gatherServed_156 (fun g_55 H locs eg_55 hw56 => ?_)
                        have ha_57 : allR 10 (0) 1023 g_55 := allR_upd hi_19_2 eg_55 (by omega)
                        obtain ⟨v_58, ev_58⟩ : ∃ z : Int32, x_17 + Int32.ofInt (1) = z := ⟨_, rfl⟩
                        have hv_58 : v_58.toInt = x_17.toInt + (1) := by rw [← ev_58]; exact incE rfl (by decide) (by omega)
                        refine lv_iinc (pc := 157) (v := v_58) (lv' := [(4, .int v_58), (6, .int v_26), (5, .int v_24), (3, .int v_4), (0, .ref (mr 0)), (1, .ref (mr 11)), (2, .int z_k)]) E.1 E.2.1 dX6_gatherServed_157 hl27 (k := 2) rfl ev_58 (by decide) rfl (fun ls hl59 => ?_)
                        refine lv_goto (pc := 160) (tgt := 45) E.1 E.2.1 dX6_gatherServed_160 (by decide) ?_
                        exact ih_20 v_58 g_55 g_45 _ _ _ ⟨(by show 0 ≤ v_58.toInt; omega), (by show v_58.toInt ≤ (mi 8).toInt; omega), ha_57, ha_47⟩ (by omega) hw56 (lv_sub hl59 [0, 3, 4, 5, 6] rfl)
        exact loop_16 (Int.toNat ((mi 8).toInt - 0) + 1) 0 g_9 g_10 _ _ _ ⟨(by show 0 ≤ (0 : Int32).toInt; have k_0 : (0 : Int32).toInt = 0 := (by decide +kernel); omega), (by show (0 : Int32).toInt ≤ (mi 8).toInt; have k_0 : (0 : Int32).toInt = 0 := (by decide +kernel); omega), hi_10_2, hi_10_3⟩ (by have k_0 : (0 : Int32).toInt = 0 := (by decide +kernel); omega) hw12 (lv_sub hl15 [0, 1, 2, 3, 4] rfl)
      · skip
        have hc_14 := nleE (a := 10) (b := x_8.toInt) (by decide +kernel) rfl c_14
        refine lv_aload_n (pc := 20) E.1 E.2.1 dX6_gatherServed_20 rfl (lv_at hl13 2 rfl) ?_
        refine x_get (pc := 21) (T := TX6) (N := 10) (ci := 6) (v := .ref (mr 9)) E hw12 inX6 0 8 q_1170 rfl rfl (by decide) rfl rfl dX6_gatherServed_21 ?_
        refine lv_iload (pc := 24) E.1 E.2.1 dX6_gatherServed_24 (lv_at hl13 0 rfl) ?_
        refine lv_iconst (pc := 26) (v := 0) E.1 E.2.1 dX6_gatherServed_26 (by decide +kernel) ?_
        refine x_iastG (pc := 27) (f := g_9) (wf := fun g => (WZ_PV1 cI cJ mr mi (va_up (va_up mf 9 g) 10 g_10) mg)) E hw12 5 rfl (inbE (a := x_8.toInt) rfl (by omega)) (fun _ => rfl) dX6_gatherServed_27 (fun g_60 H locs eg_60 hw61 => ?_)
        have ha_62 : allR 10 (0) 1023 g_60 := allR_upd hi_10_2 eg_60 (by decide +kernel)
        refine lv_aload_n (pc := 28) E.1 E.2.1 dX6_gatherServed_28 rfl (lv_at hl13 2 rfl) ?_
        refine x_get (pc := 29) (T := TX6) (N := 10) (ci := 6) (v := .ref (mr 10)) E hw61 inX6 0 9 q_1171 rfl rfl (by decide) rfl rfl dX6_gatherServed_29 ?_
        refine lv_iload (pc := 32) E.1 E.2.1 dX6_gatherServed_32 (lv_at hl13 0 rfl) ?_
        refine lv_iconst (pc := 34) (v := 0) E.1 E.2.1 dX6_gatherServed_34 (by decide +kernel) ?_
        refine x_iastG (pc := 35) (f := g_10) (wf := fun g => (WZ_PV1 cI cJ mr mi (va_up (va_up mf 9 g_60) 10 g) mg)) E hw61 6 rfl (inbE (a := x_8.toInt) rfl (by omega)) (fun _ => rfl) dX6_gatherServed_35 (fun g_63 H locs eg_63 hw64 => ?_)
        have ha_65 : allR 10 (0) 1023 g_63 := allR_upd hi_10_3 eg_63 (by decide +kernel)
        obtain ⟨v_66, ev_66⟩ : ∃ z : Int32, x_8 + Int32.ofInt (1) = z := ⟨_, rfl⟩
        have hv_66 : v_66.toInt = x_8.toInt + (1) := by rw [← ev_66]; exact incE rfl (by decide) (by omega)
        refine lv_iinc (pc := 36) (v := v_66) (lv' := [(4, .int v_66), (3, .int v_4), (0, .ref (mr 0)), (1, .ref (mr 11)), (2, .int z_k)]) E.1 E.2.1 dX6_gatherServed_36 hl13 (k := 0) rfl ev_66 (by decide) rfl (fun ls hl67 => ?_)
        refine lv_goto (pc := 39) (tgt := 13) E.1 E.2.1 dX6_gatherServed_39 (by decide) ?_
        exact ih_11 v_66 g_60 g_63 _ _ _ ⟨(by show 0 ≤ v_66.toInt; omega), (by show v_66.toInt ≤ 10; omega), ha_62, ha_65⟩ (by omega) hw64 (lv_sub hl67 [0, 1, 2, 3, 4] rfl)
  exact loop_7 (Int.toNat (10 - 0) + 1) 0 (mf 9) (mf 10) _ _ _ ⟨(by show 0 ≤ (0 : Int32).toInt; have k_0 : (0 : Int32).toInt = 0 := (by decide +kernel); omega), (by show (0 : Int32).toInt ≤ 10; have k_0 : (0 : Int32).toInt = 0 := (by decide +kernel); omega), a_served, a_wed⟩ (by have k_0 : (0 : Int32).toInt = 0 := (by decide +kernel); omega) hw1 (lv_sub hl6 [0, 1, 2, 3, 4] rfl)
