set_option maxHeartbeats 8000000 in
set_option maxRecDepth 100000 in
theorem whole_start {p : Program} {e : Env} {s : State} {m : MethodId} {below : List Frame} {meth : Method} {c : Code} (l : Launch) (hflags : l.flags = flags0) {b L : Nat} {xs : Nat → Int32} (hL : L ≤ 3072) (C0 : lw_At p s m meth c b L xs) : W p l e room_1 s m #[Value.ref b] below meth c s.heap [] 0 0 (lw_Z below #[Value.ref b] s) (entryFrame m ([Value.ref b] : List Value).toArray 4) := by
  obtain ⟨hx, hb, hr, hml, hown, hts, hXs, hbl, hlocks, hgv⟩ := id C0
  obtain ⟨D, cI, cJ, cN, ad, av, tf, t1, t2, A, hA1, hA2, hbA, hKK, hAO, hXC⟩ := law_env C0
  have hg : ∀ w ∈ GW, w.before #[Value.ref b] s = true := fun w h => hts w (List.mem_filter.mp h).1
  have E : EN p c code 4 s #[Value.ref b] RL m D cI cJ := ⟨hx, hb, hml, hown, hg, hKK⟩
  have hXJ : xJ D cI cJ cN (qsA ad) s := ⟨⟨hXC.1.2.2.1, hXC.1.2.2.2.1, hXC.1.2.2.2.2.1, hXC.1.2.2.2.2.2.1, hXC.1.2.2.2.2.2.2.1, hXC.1.2.1⟩, hAO, hXC.2.1⟩
  have hw : WD D A s.heap [] s.heap [] := ⟨fun k q h => by simp at h, ⟨fun i j p q h => by simp at h, fun k q h => by simp at h⟩, va_S.rf, hA1⟩
  have hl := lv_entry ([.ref b]) (n := 4) (Nat.le_of_ble_eq_true rfl)
  rw [lg_entry_eq]
  generalize (lg_sl ([.ref b]) ++ List.replicate (4 - (lg_sl ([.ref b])).length) Slot.unset).toArray = ls at hl ⊢
  have hl : lv_has ls 4 [(0, .ref b)] := hl
  refine x_new (pc := 0) (T := TX11) (N := 13) (ci := 11) (k1 := 1) (n1 := 13) E hw inX11 tyX11_ok q_171 q_172 q_151 rfl dfX11 (Nat.le_of_ble_eq_true rfl) (Nat.le_of_ble_eq_true rfl) (Nat.le_of_ble_eq_true rfl) (Nat.le_of_ble_eq_true rfl) dL_law_0 (fun q1 H hw => ?_)
  have hw : WD D A s.heap [(q1, .inr (11, [.null, .null, .null, .null, .null, .null, .null, .null, .null, .int 0, .int 0, .null, .null]))] H [] := hw
  refine lv_dup (pc := 3) E.1 E.2.1 dL_law_3 rfl ?_
  refine cl_v (pc := 4) (k1 := 122) (n1 := 4994) (wr := []) hw [0] [] rfl rfl (by decide) (by decide) (Nat.le_of_ble_eq_true rfl) (Nat.le_of_ble_eq_true rfl) (rn_I (As := []) (rest := [.ref q1]) E hw (c_X11_init l D cI cJ _ q1 (qsA ad) cN) q_175 q_151 q_173 q_174 hdI_X11_init rfl ⟨rfl, rfl⟩ ⟨(Nat.le_of_ble_eq_true rfl), (Nat.le_of_ble_eq_true rfl)⟩ ⟨(Nat.le_of_ble_eq_true rfl), (Nat.le_of_ble_eq_true rfl)⟩ xJ_b (xJ_at hXJ) [0] rfl (by decide) rfl hl.1 rfl (Nat.le_of_ble_eq_true rfl) dL_law_4) (fun u1 H1 locs _ hw => ?_)
  have hC := cw_init (cI := cI) (cJ := cJ) (cN := cN) (ad := ad) (h0 := q1) u1
  have hw : WD D A s.heap (w1_c_X11_init cI cJ q1 (qsA ad) cN u1) H1 locs := hw
  generalize w1_c_X11_init cI cJ q1 (qsA ad) cN u1 = wc at hw hC
  refine lv_astore_n (pc := 7) (lv' := [(1, .ref q1), (0, .ref b)]) E.1 E.2.1 dL_law_7 rfl hl (by decide) rfl (fun ls hl => ?_)
  refine x_new (pc := 8) (T := TX12) (N := 70) (ci := 12) (k1 := 123) (n1 := 5064) E hw inX12 tyX12_ok q_1392 q_1393 q_162 rfl dfX12 (Nat.le_of_ble_eq_true rfl) (Nat.le_of_ble_eq_true rfl) (Nat.le_of_ble_eq_true rfl) (Nat.le_of_ble_eq_true rfl) dL_law_8 (fun q2 H2 hw => ?_)
  refine lv_dup (pc := 11) E.1 E.2.1 dL_law_11 rfl ?_
  refine lcR_v (pc := 12) (k1 := 161) (n1 := 128830) hw (Nat.le_of_ble_eq_true rfl) (Nat.le_of_ble_eq_true rfl) (rn_X (As := []) (rest := [.ref q2]) E (P_right hw.1) (D_right hw.2.1) (c_X12_init l D cI cJ _ q2) q_1396 q_162 q_1394 q_1395 hdI_X12_init rfl ⟨rfl, rfl⟩ ⟨(Nat.le_of_ble_eq_true rfl), (Nat.le_of_ble_eq_true rfl)⟩ ⟨(Nat.le_of_ble_eq_true rfl), (Nat.le_of_ble_eq_true rfl)⟩ xT_b xT_at rfl hl.1 rfl (Nat.le_of_ble_eq_true rfl) dL_law_12) (fun u2 H3 locs3 hp hw => ?_)
  have hM := rw_init (cI := cI) (cJ := cJ) (h0 := q2) u2 hp
  have hw : WD D A s.heap (wc ++ w1_c_X12_init cI cJ q2 u2) H3 locs3 := hw
  generalize w1_c_X12_init cI cJ q2 u2 = wm at hw hM
  refine lv_astore_n (pc := 15) (lv' := [(2, .ref q2), (1, .ref q1), (0, .ref b)]) E.1 E.2.1 dL_law_15 rfl hl (by decide) rfl (fun ls hl => ?_)
  refine lv_iconst (pc := 16) (v := 0) E.1 E.2.1 dL_law_16 (by decide +kernel) ?_
  refine lv_istore_n (pc := 17) (lv' := [(3, .int 0), (2, .ref q2), (1, .ref q1), (0, .ref b)]) E.1 E.2.1 dL_law_17 rfl hl (by decide) rfl (fun ls hl => ?_)
  exact lw_loop E hXs hbl hbA hXC hL hA2 hr hlocks 513 161 128830 0 (((0, fun _ => 0, 0), none), (fun _ => 0, none)) wc wm H3 locs3 ls (by decide) (by decide) (by decide +kernel) (by decide +kernel) hC hM hw hl
