set_option maxHeartbeats 4000000 in
set_option maxRecDepth 100000 in
theorem s_emitsStep (l : Launch) (D : va_G) (cI cJ : ClassId) (sz M : Nat) (mr : Nat → Nat) (mi : Nat → Int32) (mf : Nat → Nat → Int32) (mg : Nat → Nat → Int64) (z_what : Int32) (z_how : Int32) (h0 : 0 ≤ (mi 48).toInt ∧ (mi 48).toInt ≤ 139) : Met l yX12_emitsStep (Cond.code yX12_emitsStep cX12_emitsStep 3 none :: GW) ({ frames := 1, cells := 0, slots := 0, locals := 40 } : Room) (va_Pc [.ref M, .int z_what, .int z_how] (PW D cI cJ sz (MW cI cJ M mr mi mf mg) xT)) (va_Qv (fun (u : (Nat → Int32) × (Nat → Int32) × Int32) => (u.2.2.toInt = (mi 48).toInt + 1) ∧ (EM (mf 46) (mf 47) u.1 u.2.1 (((mi 48).toInt).toNat) z_what z_how)) (fun u => QW D cI cJ (va_A (MW cI cJ M mr mi mf mg) sz) ((fun (u : (Nat → Int32) × (Nat → Int32) × Int32) => (MW cI cJ M mr (upd mi 48 u.2.2) (va_up (va_up mf 46 u.1) 47 u.2.1) mg)) u)) (va_A (MW cI cJ M mr mi mf mg) sz)) 0 0 (va_A (MW cI cJ M mr mi mf mg) sz) := by
  refine mk_met (y := yX12_emitsStep) (bytes := cX12_emitsStep) (maxL := 3) (avs := [.ref M, .int z_what, .int z_how]) (WS := (MW cI cJ M mr mi mf mg)) (Qf := fun A => va_Qv (fun (u : (Nat → Int32) × (Nat → Int32) × Int32) => (u.2.2.toInt = (mi 48).toInt + 1) ∧ (EM (mf 46) (mf 47) u.1 u.2.1 (((mi 48).toInt).toNat) z_what z_how)) (fun u => QW D cI cJ A ((fun (u : (Nat → Int32) × (Nat → Int32) × Int32) => (MW cI cJ M mr (upd mi 48 u.2.2) (va_up (va_up mf 46 u.1) 47 u.2.1) mg)) u)) A) (by decide) (Nat.le_of_ble_eq_true rfl) ?_
  intro p e s m below meth c A ls E hr hlk hnm hX hw1 hl2
  have hl3 : lv_has ls 3 [(0, .ref M), (1, .int z_what), (2, .int z_how)] := hl2
  refine lv_aload_n (pc := 0) E.1 E.2.1 dX12_emitsStep_0 rfl (lv_at hl3 0 rfl) ?_
  refine x_get (pc := 1) (T := TX12) (N := 70) (ci := 12) (v := .ref (mr 46)) E hw1 inX12 0 46 q_1445 rfl rfl (by decide) rfl rfl dX12_emitsStep_1 ?_
  refine lv_aload_n (pc := 4) E.1 E.2.1 dX12_emitsStep_4 rfl (lv_at hl3 0 rfl) ?_
  refine x_get (pc := 5) (T := TX12) (N := 70) (ci := 12) (v := .int (mi 48)) E hw1 inX12 0 48 q_1447 rfl rfl (by decide) rfl rfl dX12_emitsStep_5 ?_
  refine lv_iload_n (pc := 8) E.1 E.2.1 dX12_emitsStep_8 rfl (lv_at hl3 1 rfl) ?_
  refine x_iastG (pc := 9) (f := (mf 46)) (wf := fun g => (MW cI cJ M mr mi (va_up mf 46 g) mg)) E hw1 23 rfl (inbE (a := (mi 48).toInt) rfl (by omega)) (fun _ => rfl) dX12_emitsStep_9 (fun g_4 H locs eg_4 hw5 => ?_)
  refine lv_aload_n (pc := 10) E.1 E.2.1 dX12_emitsStep_10 rfl (lv_at hl3 0 rfl) ?_
  refine x_get (pc := 11) (T := TX12) (N := 70) (ci := 12) (v := .ref (mr 47)) E hw5 inX12 0 47 q_1446 rfl rfl (by decide) rfl rfl dX12_emitsStep_11 ?_
  refine lv_aload_n (pc := 14) E.1 E.2.1 dX12_emitsStep_14 rfl (lv_at hl3 0 rfl) ?_
  refine x_get (pc := 15) (T := TX12) (N := 70) (ci := 12) (v := .int (mi 48)) E hw5 inX12 0 48 q_1447 rfl rfl (by decide) rfl rfl dX12_emitsStep_15 ?_
  refine lv_iload_n (pc := 18) E.1 E.2.1 dX12_emitsStep_18 rfl (lv_at hl3 2 rfl) ?_
  refine x_iastG (pc := 19) (f := (mf 47)) (wf := fun g => (MW cI cJ M mr mi (va_up (va_up mf 46 g_4) 47 g) mg)) E hw5 24 rfl (inbE (a := (mi 48).toInt) rfl (by omega)) (fun _ => rfl) dX12_emitsStep_19 (fun g_6 H locs eg_6 hw7 => ?_)
  refine lv_aload_n (pc := 20) E.1 E.2.1 dX12_emitsStep_20 rfl (lv_at hl3 0 rfl) ?_
  refine lv_aload_n (pc := 21) E.1 E.2.1 dX12_emitsStep_21 rfl (lv_at hl3 0 rfl) ?_
  refine x_get (pc := 22) (T := TX12) (N := 70) (ci := 12) (v := .int (mi 48)) E hw7 inX12 0 48 q_1447 rfl rfl (by decide) rfl rfl dX12_emitsStep_22 ?_
  refine lv_iconst (pc := 25) (v := 1) E.1 E.2.1 dX12_emitsStep_25 (by decide +kernel) ?_
  refine lv_iadd (pc := 26) E.1 E.2.1 dX12_emitsStep_26 ?_
  refine lv_topi (fun v_8 ev_8 => ?_)
  have hv_8 : v_8.toInt = (mi 48).toInt + 1 := by rw [ev_8]; exact addE rfl (by decide +kernel) (by omega)
  refine x_put (pc := 27) (T := TX12) (N := 70) (ci := 12) (ws' := (MW cI cJ M mr (upd mi 48 v_8) (va_up (va_up mf 46 g_4) 47 g_6) mg)) E hw7 inX12 tyX12_ok nmX12 0 48 q_1447 rfl rfl (by decide) rfl rfl rfl rfl (Nat.le_of_ble_eq_true rfl) rfl dX12_emitsStep_27 (fun H locs hw9 => ?_)
  exact em_v (w1 := (fun (u : (Nat → Int32) × (Nat → Int32) × Int32) => (MW cI cJ M mr (upd mi 48 u.2.2) (va_up (va_up mf 46 u.1) 47 u.2.1) mg))) E hr hlk (g_4, g_6, v_8) hw9 ⟨(by show v_8.toInt = (mi 48).toInt + 1; omega), (show EM (mf 46) (mf 47) g_4 g_6 (((mi 48).toInt).toNat) z_what z_how from (EM_of eg_4 eg_6 (by omega) (by omega)))⟩ (Nat.le_of_ble_eq_true rfl) (Nat.le_of_ble_eq_true rfl) dX12_emitsStep_30

