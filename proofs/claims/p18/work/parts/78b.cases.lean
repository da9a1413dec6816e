set_option maxHeartbeats 4000000 in
set_option maxRecDepth 100000 in
theorem lc_far {p : Program} {l : Launch} {e : Env} {s : State} {m : MethodId} {below : List Frame} {meth : Method} {c : Code} {H : Heap} {locs : List Loc} {cells slots : Nat} {ls : Array Slot} {D : va_G} {A : Nat → Prop} {cI cJ cN : ClassId} {ad av : Nat → Nat} {tf : Value} {t1 t2 : Nat} {b L q1 q2 : Nat} {xs : Nat → Int32} {n : NB} {wc wm : va_W} {Q : State → Prop} (E : EN p c code 4 s #[Value.ref b] RL m D cI cJ) (hXs : va_X b L xs s s.heap) (hbl : b < s.heap.size) (hbA : ¬ A b) (hXC : xC D cI cJ cN ad av tf t1 t2 A s) (hR : cells + 50 ≤ 600000 ∧ slots + 10390 ≤ 7302250) (hL : L ≤ 3072) {i : Int32} (hi : 0 ≤ i.toInt ∧ i.toInt + 6 ≤ (L : Int)) (hC : CW cI cJ cN ad n q1 wc) (hM : RW cI cJ n q2 wm) (hw : WD D A s.heap (wc ++ wm) H locs) (hl : lv_has ls 4 [(3, .int i), (2, .ref q2), (1, .ref q1), (0, .ref b)]) (kk : ∀ (n : NB) (wc wm : va_W) (H : Heap) (locs : List Loc) (ls : Array Slot), CW cI cJ cN ad n q1 wc → RW cI cJ n q2 wm → WD D A s.heap (wc ++ wm) H locs → lv_has ls 4 [(3, .int i), (2, .ref q2), (1, .ref q1), (0, .ref b)] → W p l e room_1 s m #[Value.ref b] below meth c H locs (cells + 50) (slots + 10390) Q (F0 m 1036 ls [])) : W p l e room_1 s m #[Value.ref b] below meth c H locs cells slots Q (F0 m 516 ls []) := by
  obtain ⟨fs1, he1⟩ := cw_head hC
  obtain ⟨fs2, he2⟩ := rw_head hM
  refine lv_aload_n (pc := 516) E.1 E.2.1 dL_law_516 rfl (lv_at hl 2 rfl) ?_
  refine lv_aload_n (pc := 517) E.1 E.2.1 dL_law_517 rfl (lv_at hl 3 rfl) ?_
  refine lv_iload_n (pc := 518) E.1 E.2.1 dL_law_518 rfl (lv_at hl 0 rfl) ?_
  refine lv_iconst (pc := 519) (v := 1) E.1 E.2.1 dL_law_519 (by decide +kernel) ?_
  refine lv_iadd (pc := 520) E.1 E.2.1 dL_law_520 ?_
  refine lv_topi (fun v1 ev1 => ?_)
  have hv1 : v1.toInt = i.toInt + 1 := by rw [ev1]; exact addE rfl (by decide +kernel) (by omega)
  refine va_sld (pc := 521) E.1 E.2.1 hXs hbl hbA hw.2.2.1 (inbE (a := v1.toInt) rfl (by omega)) dL_law_521 ?_
  refine lv_topi (fun x2 ex2 => ?_)
  refine lv_aload_n (pc := 522) E.1 E.2.1 dL_law_522 rfl (lv_at hl 3 rfl) ?_
  refine lv_iload_n (pc := 523) E.1 E.2.1 dL_law_523 rfl (lv_at hl 0 rfl) ?_
  refine lv_iconst (pc := 524) (v := 2) E.1 E.2.1 dL_law_524 (by decide +kernel) ?_
  refine lv_iadd (pc := 525) E.1 E.2.1 dL_law_525 ?_
  refine lv_topi (fun v3 ev3 => ?_)
  have hv3 : v3.toInt = i.toInt + 2 := by rw [ev3]; exact addE rfl (by decide +kernel) (by omega)
  refine va_sld (pc := 526) E.1 E.2.1 hXs hbl hbA hw.2.2.1 (inbE (a := v3.toInt) rfl (by omega)) dL_law_526 ?_
  refine lv_topi (fun x4 ex4 => ?_)
  refine lcL_i (pc := 527) (k1 := cells + 50) (n1 := slots + 10390) hw (by omega) (by omega) (rn_W (As := [.int x2, .int x4]) (rest := []) E (P_left hw.1) (D_left hw.2.1) (k_far l D cI cJ cN H.size ad av tf t1 t2 _ q1 wc hC x2 x4) (gdV q_1129 q_1130 q_1131 q_151 q_1132) hdV_X11_far ⟨rfl, rfl⟩ ⟨(Nat.le_of_ble_eq_true rfl), (Nat.le_of_ble_eq_true rfl)⟩ ⟨(by show _ ≤ 600000; omega), (by show _ ≤ 7302250; omega)⟩ xC_b (xC_at hXC hw.2.2.1 (A_l hw)) 11 rfl rfl he1 rfl hl.1 rfl (Nat.le_of_ble_eq_true rfl) dL_law_527) (fun r5 w5 Hr5 locsr5 p5 hw5 => ?_)
  refine lv_pop (pc := 530) E.1 E.2.1 dL_law_530 rfl ?_
  refine lv_aload_n (pc := 531) E.1 E.2.1 dL_law_531 rfl (lv_at hl 1 rfl) ?_
  refine lv_aload_n (pc := 532) E.1 E.2.1 dL_law_532 rfl (lv_at hl 3 rfl) ?_
  refine lv_iload_n (pc := 533) E.1 E.2.1 dL_law_533 rfl (lv_at hl 0 rfl) ?_
  refine lv_iconst (pc := 534) (v := 1) E.1 E.2.1 dL_law_534 (by decide +kernel) ?_
  refine lv_iadd (pc := 535) E.1 E.2.1 dL_law_535 ?_
  refine lv_topi (fun v6 ev6 => ?_)
  have hv6 : v6.toInt = i.toInt + 1 := by rw [ev6]; exact addE rfl (by decide +kernel) (by omega)
  refine va_sld (pc := 536) E.1 E.2.1 hXs hbl hbA hw5.2.2.1 (inbE (a := v6.toInt) rfl (by omega)) dL_law_536 ?_
  refine lv_topi (fun x7 ex7 => ?_)
  have qx7 : x2 = x7 := by rw [ex2, ex7, ev1, ev6]
  subst qx7
  refine lv_aload_n (pc := 537) E.1 E.2.1 dL_law_537 rfl (lv_at hl 3 rfl) ?_
  refine lv_iload_n (pc := 538) E.1 E.2.1 dL_law_538 rfl (lv_at hl 0 rfl) ?_
  refine lv_iconst (pc := 539) (v := 2) E.1 E.2.1 dL_law_539 (by decide +kernel) ?_
  refine lv_iadd (pc := 540) E.1 E.2.1 dL_law_540 ?_
  refine lv_topi (fun v8 ev8 => ?_)
  have hv8 : v8.toInt = i.toInt + 2 := by rw [ev8]; exact addE rfl (by decide +kernel) (by omega)
  refine va_sld (pc := 541) E.1 E.2.1 hXs hbl hbA hw5.2.2.1 (inbE (a := v8.toInt) rfl (by omega)) dL_law_541 ?_
  refine lv_topi (fun x9 ex9 => ?_)
  have qx9 : x4 = x9 := by rw [ex4, ex9, ev3, ev8]
  subst qx9
  refine lcR_i (pc := 542) (k1 := cells + 50) (n1 := slots + 10390) hw5 (by omega) (by omega) (rn_W (As := [.int x2, .int x4]) (rest := []) E (P_right hw5.1) (D_right hw5.2.1) (m_far l D cI cJ Hr5.size _ q2 wm hM x2 x4) (gdV q_1818 q_1819 q_1820 q_162 q_1821) hdV_X12_far ⟨rfl, rfl⟩ ⟨(Nat.le_of_ble_eq_true rfl), (Nat.le_of_ble_eq_true rfl)⟩ ⟨(by show _ ≤ 600000; omega), (by show _ ≤ 7302250; omega)⟩ xT_b xT_at 12 rfl rfl he2 rfl hl.1 rfl (Nat.le_of_ble_eq_true rfl) dL_law_542) (fun r10 w10 Hr10 locsr10 p10 hw10 => ?_)
  refine lv_pop (pc := 545) E.1 E.2.1 dL_law_545 rfl ?_
  refine lv_goto (pc := 546) (tgt := 1036) E.1 E.2.1 dL_law_546 (by decide) ?_
  exact kk _ _ _ _ _ _ p5 p10 hw10 hl
set_option maxHeartbeats 4000000 in
set_option maxRecDepth 100000 in
theorem lc_need {p : Program} {l : Launch} {e : Env} {s : State} {m : MethodId} {below : List Frame} {meth : Method} {c : Code} {H : Heap} {locs : List Loc} {cells slots : Nat} {ls : Array Slot} {D : va_G} {A : Nat → Prop} {cI cJ cN : ClassId} {ad av : Nat → Nat} {tf : Value} {t1 t2 : Nat} {b L q1 q2 : Nat} {xs : Nat → Int32} {n : NB} {wc wm : va_W} {Q : State → Prop} (E : EN p c code 4 s #[Value.ref b] RL m D cI cJ) (hXs : va_X b L xs s s.heap) (hbl : b < s.heap.size) (hbA : ¬ A b) (hXC : xC D cI cJ cN ad av tf t1 t2 A s) (hR : cells + 50 ≤ 600000 ∧ slots + 10390 ≤ 7302250) (hL : L ≤ 3072) {i : Int32} (hi : 0 ≤ i.toInt ∧ i.toInt + 6 ≤ (L : Int)) (hC : CW cI cJ cN ad n q1 wc) (hM : RW cI cJ n q2 wm) (hw : WD D A s.heap (wc ++ wm) H locs) (hl : lv_has ls 4 [(3, .int i), (2, .ref q2), (1, .ref q1), (0, .ref b)]) (kk : ∀ (n : NB) (wc wm : va_W) (H : Heap) (locs : List Loc) (ls : Array Slot), CW cI cJ cN ad n q1 wc → RW cI cJ n q2 wm → WD D A s.heap (wc ++ wm) H locs → lv_has ls 4 [(3, .int i), (2, .ref q2), (1, .ref q1), (0, .ref b)] → W p l e room_1 s m #[Value.ref b] below meth c H locs (cells + 50) (slots + 10390) Q (F0 m 1036 ls [])) : W p l e room_1 s m #[Value.ref b] below meth c H locs cells slots Q (F0 m 549 ls []) := by
  obtain ⟨fs1, he1⟩ := cw_head hC
  obtain ⟨fs2, he2⟩ := rw_head hM
  refine lv_aload_n (pc := 549) E.1 E.2.1 dL_law_549 rfl (lv_at hl 2 rfl) ?_
  refine lv_aload_n (pc := 550) E.1 E.2.1 dL_law_550 rfl (lv_at hl 3 rfl) ?_
  refine lv_iload_n (pc := 551) E.1 E.2.1 dL_law_551 rfl (lv_at hl 0 rfl) ?_
  refine lv_iconst (pc := 552) (v := 1) E.1 E.2.1 dL_law_552 (by decide +kernel) ?_
  refine lv_iadd (pc := 553) E.1 E.2.1 dL_law_553 ?_
  refine lv_topi (fun v1 ev1 => ?_)
  have hv1 : v1.toInt = i.toInt + 1 := by rw [ev1]; exact addE rfl (by decide +kernel) (by omega)
  refine va_sld (pc := 554) E.1 E.2.1 hXs hbl hbA hw.2.2.1 (inbE (a := v1.toInt) rfl (by omega)) dL_law_554 ?_
  refine lv_topi (fun x2 ex2 => ?_)
  refine lv_aload_n (pc := 555) E.1 E.2.1 dL_law_555 rfl (lv_at hl 3 rfl) ?_
  refine lv_iload_n (pc := 556) E.1 E.2.1 dL_law_556 rfl (lv_at hl 0 rfl) ?_
  refine lv_iconst (pc := 557) (v := 2) E.1 E.2.1 dL_law_557 (by decide +kernel) ?_
  refine lv_iadd (pc := 558) E.1 E.2.1 dL_law_558 ?_
  refine lv_topi (fun v3 ev3 => ?_)
  have hv3 : v3.toInt = i.toInt + 2 := by rw [ev3]; exact addE rfl (by decide +kernel) (by omega)
  refine va_sld (pc := 559) E.1 E.2.1 hXs hbl hbA hw.2.2.1 (inbE (a := v3.toInt) rfl (by omega)) dL_law_559 ?_
  refine lv_topi (fun x4 ex4 => ?_)
  refine lcL_i (pc := 560) (k1 := cells + 50) (n1 := slots + 10390) hw (by omega) (by omega) (rn_W (As := [.int x2, .int x4]) (rest := []) E (P_left hw.1) (D_left hw.2.1) (k_need l D cI cJ cN H.size ad av tf t1 t2 _ q1 wc hC x2 x4) (gdV q_1134 q_1135 q_1136 q_151 q_1137) hdV_X11_need ⟨rfl, rfl⟩ ⟨(Nat.le_of_ble_eq_true rfl), (Nat.le_of_ble_eq_true rfl)⟩ ⟨(by show _ ≤ 600000; omega), (by show _ ≤ 7302250; omega)⟩ xC_b (xC_at hXC hw.2.2.1 (A_l hw)) 11 rfl rfl he1 rfl hl.1 rfl (Nat.le_of_ble_eq_true rfl) dL_law_560) (fun r5 w5 Hr5 locsr5 p5 hw5 => ?_)
  refine lv_pop (pc := 563) E.1 E.2.1 dL_law_563 rfl ?_
  refine lv_aload_n (pc := 564) E.1 E.2.1 dL_law_564 rfl (lv_at hl 1 rfl) ?_
  refine lv_aload_n (pc := 565) E.1 E.2.1 dL_law_565 rfl (lv_at hl 3 rfl) ?_
  refine lv_iload_n (pc := 566) E.1 E.2.1 dL_law_566 rfl (lv_at hl 0 rfl) ?_
  refine lv_iconst (pc := 567) (v := 1) E.1 E.2.1 dL_law_567 (by decide +kernel) ?_
  refine lv_iadd (pc := 568) E.1 E.2.1 dL_law_568 ?_
  refine lv_topi (fun v6 ev6 => ?_)
  have hv6 : v6.toInt = i.toInt + 1 := by rw [ev6]; exact addE rfl (by decide +kernel) (by omega)
  refine va_sld (pc := 569) E.1 E.2.1 hXs hbl hbA hw5.2.2.1 (inbE (a := v6.toInt) rfl (by omega)) dL_law_569 ?_
  refine lv_topi (fun x7 ex7 => ?_)
  have qx7 : x2 = x7 := by rw [ex2, ex7, ev1, ev6]
  subst qx7
  refine lv_aload_n (pc := 570) E.1 E.2.1 dL_law_570 rfl (lv_at hl 3 rfl) ?_
  refine lv_iload_n (pc := 571) E.1 E.2.1 dL_law_571 rfl (lv_at hl 0 rfl) ?_
  refine lv_iconst (pc := 572) (v := 2) E.1 E.2.1 dL_law_572 (by decide +kernel) ?_
  refine lv_iadd (pc := 573) E.1 E.2.1 dL_law_573 ?_
  refine lv_topi (fun v8 ev8 => ?_)
  have hv8 : v8.toInt = i.toInt + 2 := by rw [ev8]; exact addE rfl (by decide +kernel) (by omega)
  refine va_sld (pc := 574) E.1 E.2.1 hXs hbl hbA hw5.2.2.1 (inbE (a := v8.toInt) rfl (by omega)) dL_law_574 ?_
  refine lv_topi (fun x9 ex9 => ?_)
  have qx9 : x4 = x9 := by rw [ex4, ex9, ev3, ev8]
  subst qx9
  refine lcR_i (pc := 575) (k1 := cells + 50) (n1 := slots + 10390) hw5 (by omega) (by omega) (rn_W (As := [.int x2, .int x4]) (rest := []) E (P_right hw5.1) (D_right hw5.2.1) (m_need l D cI cJ Hr5.size _ q2 wm hM x2 x4) (gdV q_1962 q_1963 q_1964 q_162 q_1965) hdV_X12_need ⟨rfl, rfl⟩ ⟨(Nat.le_of_ble_eq_true rfl), (Nat.le_of_ble_eq_true rfl)⟩ ⟨(by show _ ≤ 600000; omega), (by show _ ≤ 7302250; omega)⟩ xT_b xT_at 12 rfl rfl he2 rfl hl.1 rfl (Nat.le_of_ble_eq_true rfl) dL_law_575) (fun r10 w10 Hr10 locsr10 p10 hw10 => ?_)
  refine lv_pop (pc := 578) E.1 E.2.1 dL_law_578 rfl ?_
  refine lv_goto (pc := 579) (tgt := 1036) E.1 E.2.1 dL_law_579 (by decide) ?_
  exact kk _ _ _ _ _ _ p5 p10 hw10 hl
set_option maxHeartbeats 4000000 in
set_option maxRecDepth 100000 in
theorem lc_book {p : Program} {l : Launch} {e : Env} {s : State} {m : MethodId} {below : List Frame} {meth : Method} {c : Code} {H : Heap} {locs : List Loc} {cells slots : Nat} {ls : Array Slot} {D : va_G} {A : Nat → Prop} {cI cJ cN : ClassId} {ad av : Nat → Nat} {tf : Value} {t1 t2 : Nat} {b L q1 q2 : Nat} {xs : Nat → Int32} {n : NB} {wc wm : va_W} {Q : State → Prop} (E : EN p c code 4 s #[Value.ref b] RL m D cI cJ) (hXs : va_X b L xs s s.heap) (hbl : b < s.heap.size) (hbA : ¬ A b) (hXC : xC D cI cJ cN ad av tf t1 t2 A s) (hR : cells + 50 ≤ 600000 ∧ slots + 10390 ≤ 7302250) (hL : L ≤ 3072) {i : Int32} (hi : 0 ≤ i.toInt ∧ i.toInt + 6 ≤ (L : Int)) (hC : CW cI cJ cN ad n q1 wc) (hM : RW cI cJ n q2 wm) (hw : WD D A s.heap (wc ++ wm) H locs) (hl : lv_has ls 4 [(3, .int i), (2, .ref q2), (1, .ref q1), (0, .ref b)]) (kk : ∀ (n : NB) (wc wm : va_W) (H : Heap) (locs : List Loc) (ls : Array Slot), CW cI cJ cN ad n q1 wc → RW cI cJ n q2 wm → WD D A s.heap (wc ++ wm) H locs → lv_has ls 4 [(3, .int i), (2, .ref q2), (1, .ref q1), (0, .ref b)] → W p l e room_1 s m #[Value.ref b] below meth c H locs (cells + 50) (slots + 10390) Q (F0 m 1036 ls [])) : W p l e room_1 s m #[Value.ref b] below meth c H locs cells slots Q (F0 m 582 ls []) := by
  obtain ⟨fs1, he1⟩ := cw_head hC
  obtain ⟨fs2, he2⟩ := rw_head hM
  refine lv_aload_n (pc := 582) E.1 E.2.1 dL_law_582 rfl (lv_at hl 2 rfl) ?_
  refine lv_aload_n (pc := 583) E.1 E.2.1 dL_law_583 rfl (lv_at hl 3 rfl) ?_
  refine lv_iload_n (pc := 584) E.1 E.2.1 dL_law_584 rfl (lv_at hl 0 rfl) ?_
  refine lv_iconst (pc := 585) (v := 1) E.1 E.2.1 dL_law_585 (by decide +kernel) ?_
  refine lv_iadd (pc := 586) E.1 E.2.1 dL_law_586 ?_
  refine lv_topi (fun v1 ev1 => ?_)
  have hv1 : v1.toInt = i.toInt + 1 := by rw [ev1]; exact addE rfl (by decide +kernel) (by omega)
  refine va_sld (pc := 587) E.1 E.2.1 hXs hbl hbA hw.2.2.1 (inbE (a := v1.toInt) rfl (by omega)) dL_law_587 ?_
  refine lv_topi (fun x2 ex2 => ?_)
  refine lv_aload_n (pc := 588) E.1 E.2.1 dL_law_588 rfl (lv_at hl 3 rfl) ?_
  refine lv_iload_n (pc := 589) E.1 E.2.1 dL_law_589 rfl (lv_at hl 0 rfl) ?_
  refine lv_iconst (pc := 590) (v := 2) E.1 E.2.1 dL_law_590 (by decide +kernel) ?_
  refine lv_iadd (pc := 591) E.1 E.2.1 dL_law_591 ?_
  refine lv_topi (fun v3 ev3 => ?_)
  have hv3 : v3.toInt = i.toInt + 2 := by rw [ev3]; exact addE rfl (by decide +kernel) (by omega)
  refine va_sld (pc := 592) E.1 E.2.1 hXs hbl hbA hw.2.2.1 (inbE (a := v3.toInt) rfl (by omega)) dL_law_592 ?_
  refine lv_topi (fun x4 ex4 => ?_)
  refine lcL_i (pc := 593) (k1 := cells + 50) (n1 := slots + 10390) hw (by omega) (by omega) (rn_W (As := [.int x2, .int x4]) (rest := []) E (P_left hw.1) (D_left hw.2.1) (k_book l D cI cJ cN H.size ad av tf t1 t2 _ q1 wc hC x2 x4) (gdV q_1139 q_1140 q_1141 q_151 q_1142) hdV_X11_book ⟨rfl, rfl⟩ ⟨(Nat.le_of_ble_eq_true rfl), (Nat.le_of_ble_eq_true rfl)⟩ ⟨(by show _ ≤ 600000; omega), (by show _ ≤ 7302250; omega)⟩ xC_b (xC_at hXC hw.2.2.1 (A_l hw)) 11 rfl rfl he1 rfl hl.1 rfl (Nat.le_of_ble_eq_true rfl) dL_law_593) (fun r5 w5 Hr5 locsr5 p5 hw5 => ?_)
  refine lv_pop (pc := 596) E.1 E.2.1 dL_law_596 rfl ?_
  refine lv_aload_n (pc := 597) E.1 E.2.1 dL_law_597 rfl (lv_at hl 1 rfl) ?_
  refine lv_aload_n (pc := 598) E.1 E.2.1 dL_law_598 rfl (lv_at hl 3 rfl) ?_
  refine lv_iload_n (pc := 599) E.1 E.2.1 dL_law_599 rfl (lv_at hl 0 rfl) ?_
  refine lv_iconst (pc := 600) (v := 1) E.1 E.2.1 dL_law_600 (by decide +kernel) ?_
  refine lv_iadd (pc := 601) E.1 E.2.1 dL_law_601 ?_
  refine lv_topi (fun v6 ev6 => ?_)
  have hv6 : v6.toInt = i.toInt + 1 := by rw [ev6]; exact addE rfl (by decide +kernel) (by omega)
  refine va_sld (pc := 602) E.1 E.2.1 hXs hbl hbA hw5.2.2.1 (inbE (a := v6.toInt) rfl (by omega)) dL_law_602 ?_
  refine lv_topi (fun x7 ex7 => ?_)
  have qx7 : x2 = x7 := by rw [ex2, ex7, ev1, ev6]
  subst qx7
  refine lv_aload_n (pc := 603) E.1 E.2.1 dL_law_603 rfl (lv_at hl 3 rfl) ?_
  refine lv_iload_n (pc := 604) E.1 E.2.1 dL_law_604 rfl (lv_at hl 0 rfl) ?_
  refine lv_iconst (pc := 605) (v := 2) E.1 E.2.1 dL_law_605 (by decide +kernel) ?_
  refine lv_iadd (pc := 606) E.1 E.2.1 dL_law_606 ?_
  refine lv_topi (fun v8 ev8 => ?_)
  have hv8 : v8.toInt = i.toInt + 2 := by rw [ev8]; exact addE rfl (by decide +kernel) (by omega)
  refine va_sld (pc := 607) E.1 E.2.1 hXs hbl hbA hw5.2.2.1 (inbE (a := v8.toInt) rfl (by omega)) dL_law_607 ?_
  refine lv_topi (fun x9 ex9 => ?_)
  have qx9 : x4 = x9 := by rw [ex4, ex9, ev3, ev8]
  subst qx9
  refine lcR_i (pc := 608) (k1 := cells + 50) (n1 := slots + 10390) hw5 (by omega) (by omega) (rn_W (As := [.int x2, .int x4]) (rest := []) E (P_right hw5.1) (D_right hw5.2.1) (m_book l D cI cJ Hr5.size _ q2 wm hM x2 x4) (gdV q_1966 q_1967 q_1968 q_162 q_1969) hdV_X12_book ⟨rfl, rfl⟩ ⟨(Nat.le_of_ble_eq_true rfl), (Nat.le_of_ble_eq_true rfl)⟩ ⟨(by show _ ≤ 600000; omega), (by show _ ≤ 7302250; omega)⟩ xT_b xT_at 12 rfl rfl he2 rfl hl.1 rfl (Nat.le_of_ble_eq_true rfl) dL_law_608) (fun r10 w10 Hr10 locsr10 p10 hw10 => ?_)
  refine lv_pop (pc := 611) E.1 E.2.1 dL_law_611 rfl ?_
  refine lv_goto (pc := 612) (tgt := 1036) E.1 E.2.1 dL_law_612 (by decide) ?_
  exact kk _ _ _ _ _ _ p5 p10 hw10 hl
set_option maxHeartbeats 4000000 in
set_option maxRecDepth 100000 in
theorem lc_run {p : Program} {l : Launch} {e : Env} {s : State} {m : MethodId} {below : List Frame} {meth : Method} {c : Code} {H : Heap} {locs : List Loc} {cells slots : Nat} {ls : Array Slot} {D : va_G} {A : Nat → Prop} {cI cJ cN : ClassId} {ad av : Nat → Nat} {tf : Value} {t1 t2 : Nat} {b L q1 q2 : Nat} {xs : Nat → Int32} {n : NB} {wc wm : va_W} {Q : State → Prop} (E : EN p c code 4 s #[Value.ref b] RL m D cI cJ) (hXs : va_X b L xs s s.heap) (hbl : b < s.heap.size) (hbA : ¬ A b) (hXC : xC D cI cJ cN ad av tf t1 t2 A s) (hR : cells + 50 ≤ 600000 ∧ slots + 10390 ≤ 7302250) (hL : L ≤ 3072) {i : Int32} (hi : 0 ≤ i.toInt ∧ i.toInt + 6 ≤ (L : Int)) (hC : CW cI cJ cN ad n q1 wc) (hM : RW cI cJ n q2 wm) (hw : WD D A s.heap (wc ++ wm) H locs) (hl : lv_has ls 4 [(3, .int i), (2, .ref q2), (1, .ref q1), (0, .ref b)]) (kk : ∀ (n : NB) (wc wm : va_W) (H : Heap) (locs : List Loc) (ls : Array Slot), CW cI cJ cN ad n q1 wc → RW cI cJ n q2 wm → WD D A s.heap (wc ++ wm) H locs → lv_has ls 4 [(3, .int i), (2, .ref q2), (1, .ref q1), (0, .ref b)] → W p l e room_1 s m #[Value.ref b] below meth c H locs (cells + 50) (slots + 10390) Q (F0 m 1036 ls [])) : W p l e room_1 s m #[Value.ref b] below meth c H locs cells slots Q (F0 m 615 ls []) := by
  obtain ⟨fs1, he1⟩ := cw_head hC
  obtain ⟨fs2, he2⟩ := rw_head hM
  refine lv_aload_n (pc := 615) E.1 E.2.1 dL_law_615 rfl (lv_at hl 2 rfl) ?_
  refine lv_aload_n (pc := 616) E.1 E.2.1 dL_law_616 rfl (lv_at hl 3 rfl) ?_
  refine lv_iload_n (pc := 617) E.1 E.2.1 dL_law_617 rfl (lv_at hl 0 rfl) ?_
  refine lv_iconst (pc := 618) (v := 1) E.1 E.2.1 dL_law_618 (by decide +kernel) ?_
  refine lv_iadd (pc := 619) E.1 E.2.1 dL_law_619 ?_
  refine lv_topi (fun v1 ev1 => ?_)
  have hv1 : v1.toInt = i.toInt + 1 := by rw [ev1]; exact addE rfl (by decide +kernel) (by omega)
  refine va_sld (pc := 620) E.1 E.2.1 hXs hbl hbA hw.2.2.1 (inbE (a := v1.toInt) rfl (by omega)) dL_law_620 ?_
  refine lv_topi (fun x2 ex2 => ?_)
  refine lv_aload_n (pc := 621) E.1 E.2.1 dL_law_621 rfl (lv_at hl 3 rfl) ?_
  refine lv_iload_n (pc := 622) E.1 E.2.1 dL_law_622 rfl (lv_at hl 0 rfl) ?_
  refine lv_iconst (pc := 623) (v := 2) E.1 E.2.1 dL_law_623 (by decide +kernel) ?_
  refine lv_iadd (pc := 624) E.1 E.2.1 dL_law_624 ?_
  refine lv_topi (fun v3 ev3 => ?_)
  have hv3 : v3.toInt = i.toInt + 2 := by rw [ev3]; exact addE rfl (by decide +kernel) (by omega)
  refine va_sld (pc := 625) E.1 E.2.1 hXs hbl hbA hw.2.2.1 (inbE (a := v3.toInt) rfl (by omega)) dL_law_625 ?_
  refine lv_topi (fun x4 ex4 => ?_)
  refine lcL_i (pc := 626) (k1 := cells + 50) (n1 := slots + 10390) hw (by omega) (by omega) (rn_W (As := [.int x2, .int x4]) (rest := []) E (P_left hw.1) (D_left hw.2.1) (k_run l D cI cJ cN H.size ad av tf t1 t2 _ q1 wc hC x2 x4) (gdV q_1143 q_1144 q_1145 q_151 q_1146) hdV_X11_run ⟨rfl, rfl⟩ ⟨(Nat.le_of_ble_eq_true rfl), (Nat.le_of_ble_eq_true rfl)⟩ ⟨(by show _ ≤ 600000; omega), (by show _ ≤ 7302250; omega)⟩ xC_b (xC_at hXC hw.2.2.1 (A_l hw)) 11 rfl rfl he1 rfl hl.1 rfl (Nat.le_of_ble_eq_true rfl) dL_law_626) (fun r5 w5 Hr5 locsr5 p5 hw5 => ?_)
  refine lv_pop (pc := 629) E.1 E.2.1 dL_law_629 rfl ?_
  refine lv_aload_n (pc := 630) E.1 E.2.1 dL_law_630 rfl (lv_at hl 1 rfl) ?_
  refine lv_aload_n (pc := 631) E.1 E.2.1 dL_law_631 rfl (lv_at hl 3 rfl) ?_
  refine lv_iload_n (pc := 632) E.1 E.2.1 dL_law_632 rfl (lv_at hl 0 rfl) ?_
  refine lv_iconst (pc := 633) (v := 1) E.1 E.2.1 dL_law_633 (by decide +kernel) ?_
  refine lv_iadd (pc := 634) E.1 E.2.1 dL_law_634 ?_
  refine lv_topi (fun v6 ev6 => ?_)
  have hv6 : v6.toInt = i.toInt + 1 := by rw [ev6]; exact addE rfl (by decide +kernel) (by omega)
  refine va_sld (pc := 635) E.1 E.2.1 hXs hbl hbA hw5.2.2.1 (inbE (a := v6.toInt) rfl (by omega)) dL_law_635 ?_
  refine lv_topi (fun x7 ex7 => ?_)
  have qx7 : x2 = x7 := by rw [ex2, ex7, ev1, ev6]
  subst qx7
  refine lv_aload_n (pc := 636) E.1 E.2.1 dL_law_636 rfl (lv_at hl 3 rfl) ?_
  refine lv_iload_n (pc := 637) E.1 E.2.1 dL_law_637 rfl (lv_at hl 0 rfl) ?_
  refine lv_iconst (pc := 638) (v := 2) E.1 E.2.1 dL_law_638 (by decide +kernel) ?_
  refine lv_iadd (pc := 639) E.1 E.2.1 dL_law_639 ?_
  refine lv_topi (fun v8 ev8 => ?_)
  have hv8 : v8.toInt = i.toInt + 2 := by rw [ev8]; exact addE rfl (by decide +kernel) (by omega)
  refine va_sld (pc := 640) E.1 E.2.1 hXs hbl hbA hw5.2.2.1 (inbE (a := v8.toInt) rfl (by omega)) dL_law_640 ?_
  refine lv_topi (fun x9 ex9 => ?_)
  have qx9 : x4 = x9 := by rw [ex4, ex9, ev3, ev8]
  subst qx9
  refine lcR_i (pc := 641) (k1 := cells + 50) (n1 := slots + 10390) hw5 (by omega) (by omega) (rn_W (As := [.int x2, .int x4]) (rest := []) E (P_right hw5.1) (D_right hw5.2.1) (m_run l D cI cJ Hr5.size _ q2 wm hM x2 x4) (gdV q_1970 q_1971 q_1972 q_162 q_1973) hdV_X12_run ⟨rfl, rfl⟩ ⟨(Nat.le_of_ble_eq_true rfl), (Nat.le_of_ble_eq_true rfl)⟩ ⟨(by show _ ≤ 600000; omega), (by show _ ≤ 7302250; omega)⟩ xT_b xT_at 12 rfl rfl he2 rfl hl.1 rfl (Nat.le_of_ble_eq_true rfl) dL_law_641) (fun r10 w10 Hr10 locsr10 p10 hw10 => ?_)
  refine lv_pop (pc := 644) E.1 E.2.1 dL_law_644 rfl ?_
  refine lv_goto (pc := 645) (tgt := 1036) E.1 E.2.1 dL_law_645 (by decide) ?_
  exact kk _ _ _ _ _ _ p5 p10 hw10 hl
set_option maxHeartbeats 4000000 in
set_option maxRecDepth 100000 in
theorem lc_plan {p : Program} {l : Launch} {e : Env} {s : State} {m : MethodId} {below : List Frame} {meth : Method} {c : Code} {H : Heap} {locs : List Loc} {cells slots : Nat} {ls : Array Slot} {D : va_G} {A : Nat → Prop} {cI cJ cN : ClassId} {ad av : Nat → Nat} {tf : Value} {t1 t2 : Nat} {b L q1 q2 : Nat} {xs : Nat → Int32} {n : NB} {wc wm : va_W} {Q : State → Prop} (E : EN p c code 4 s #[Value.ref b] RL m D cI cJ) (hXs : va_X b L xs s s.heap) (hbl : b < s.heap.size) (hbA : ¬ A b) (hXC : xC D cI cJ cN ad av tf t1 t2 A s) (hR : cells + 50 ≤ 600000 ∧ slots + 10390 ≤ 7302250) (hL : L ≤ 3072) {i : Int32} (hi : 0 ≤ i.toInt ∧ i.toInt + 6 ≤ (L : Int)) (hC : CW cI cJ cN ad n q1 wc) (hM : RW cI cJ n q2 wm) (hw : WD D A s.heap (wc ++ wm) H locs) (hl : lv_has ls 4 [(3, .int i), (2, .ref q2), (1, .ref q1), (0, .ref b)]) (kk : ∀ (n : NB) (wc wm : va_W) (H : Heap) (locs : List Loc) (ls : Array Slot), CW cI cJ cN ad n q1 wc → RW cI cJ n q2 wm → WD D A s.heap (wc ++ wm) H locs → lv_has ls 4 [(3, .int i), (2, .ref q2), (1, .ref q1), (0, .ref b)] → W p l e room_1 s m #[Value.ref b] below meth c H locs (cells + 50) (slots + 10390) Q (F0 m 1036 ls [])) : W p l e room_1 s m #[Value.ref b] below meth c H locs cells slots Q (F0 m 648 ls []) := by
  obtain ⟨fs1, he1⟩ := cw_head hC
  obtain ⟨fs2, he2⟩ := rw_head hM
  refine lv_aload_n (pc := 648) E.1 E.2.1 dL_law_648 rfl (lv_at hl 2 rfl) ?_
  refine lv_aload_n (pc := 649) E.1 E.2.1 dL_law_649 rfl (lv_at hl 3 rfl) ?_
  refine lv_iload_n (pc := 650) E.1 E.2.1 dL_law_650 rfl (lv_at hl 0 rfl) ?_
  refine lv_iconst (pc := 651) (v := 1) E.1 E.2.1 dL_law_651 (by decide +kernel) ?_
  refine lv_iadd (pc := 652) E.1 E.2.1 dL_law_652 ?_
  refine lv_topi (fun v1 ev1 => ?_)
  have hv1 : v1.toInt = i.toInt + 1 := by rw [ev1]; exact addE rfl (by decide +kernel) (by omega)
  refine va_sld (pc := 653) E.1 E.2.1 hXs hbl hbA hw.2.2.1 (inbE (a := v1.toInt) rfl (by omega)) dL_law_653 ?_
  refine lv_topi (fun x2 ex2 => ?_)
  refine lv_aload_n (pc := 654) E.1 E.2.1 dL_law_654 rfl (lv_at hl 3 rfl) ?_
  refine lv_iload_n (pc := 655) E.1 E.2.1 dL_law_655 rfl (lv_at hl 0 rfl) ?_
  refine lv_iconst (pc := 656) (v := 2) E.1 E.2.1 dL_law_656 (by decide +kernel) ?_
  refine lv_iadd (pc := 657) E.1 E.2.1 dL_law_657 ?_
  refine lv_topi (fun v3 ev3 => ?_)
  have hv3 : v3.toInt = i.toInt + 2 := by rw [ev3]; exact addE rfl (by decide +kernel) (by omega)
  refine va_sld (pc := 658) E.1 E.2.1 hXs hbl hbA hw.2.2.1 (inbE (a := v3.toInt) rfl (by omega)) dL_law_658 ?_
  refine lv_topi (fun x4 ex4 => ?_)
  refine lcL_i (pc := 659) (k1 := cells + 50) (n1 := slots + 10390) hw (by omega) (by omega) (rn_W (As := [.int x2, .int x4]) (rest := []) E (P_left hw.1) (D_left hw.2.1) (k_plan l D cI cJ cN H.size ad av tf t1 t2 _ q1 wc hC x2 x4) (gdV q_1150 q_1151 q_1152 q_151 q_1153) hdV_X11_plan ⟨rfl, rfl⟩ ⟨(Nat.le_of_ble_eq_true rfl), (Nat.le_of_ble_eq_true rfl)⟩ ⟨(by show _ ≤ 600000; omega), (by show _ ≤ 7302250; omega)⟩ xC_b (xC_at hXC hw.2.2.1 (A_l hw)) 11 rfl rfl he1 rfl hl.1 rfl (Nat.le_of_ble_eq_true rfl) dL_law_659) (fun r5 w5 Hr5 locsr5 p5 hw5 => ?_)
  refine lv_pop (pc := 662) E.1 E.2.1 dL_law_662 rfl ?_
  refine lv_aload_n (pc := 663) E.1 E.2.1 dL_law_663 rfl (lv_at hl 1 rfl) ?_
  refine lv_aload_n (pc := 664) E.1 E.2.1 dL_law_664 rfl (lv_at hl 3 rfl) ?_
  refine lv_iload_n (pc := 665) E.1 E.2.1 dL_law_665 rfl (lv_at hl 0 rfl) ?_
  refine lv_iconst (pc := 666) (v := 1) E.1 E.2.1 dL_law_666 (by decide +kernel) ?_
  refine lv_iadd (pc := 667) E.1 E.2.1 dL_law_667 ?_
  refine lv_topi (fun v6 ev6 => ?_)
  have hv6 : v6.toInt = i.toInt + 1 := by rw [ev6]; exact addE rfl (by decide +kernel) (by omega)
  refine va_sld (pc := 668) E.1 E.2.1 hXs hbl hbA hw5.2.2.1 (inbE (a := v6.toInt) rfl (by omega)) dL_law_668 ?_
  refine lv_topi (fun x7 ex7 => ?_)
  have qx7 : x2 = x7 := by rw [ex2, ex7, ev1, ev6]
  subst qx7
  refine lv_aload_n (pc := 669) E.1 E.2.1 dL_law_669 rfl (lv_at hl 3 rfl) ?_
  refine lv_iload_n (pc := 670) E.1 E.2.1 dL_law_670 rfl (lv_at hl 0 rfl) ?_
  refine lv_iconst (pc := 671) (v := 2) E.1 E.2.1 dL_law_671 (by decide +kernel) ?_
  refine lv_iadd (pc := 672) E.1 E.2.1 dL_law_672 ?_
  refine lv_topi (fun v8 ev8 => ?_)
  have hv8 : v8.toInt = i.toInt + 2 := by rw [ev8]; exact addE rfl (by decide +kernel) (by omega)
  refine va_sld (pc := 673) E.1 E.2.1 hXs hbl hbA hw5.2.2.1 (inbE (a := v8.toInt) rfl (by omega)) dL_law_673 ?_
  refine lv_topi (fun x9 ex9 => ?_)
  have qx9 : x4 = x9 := by rw [ex4, ex9, ev3, ev8]
  subst qx9
  refine lcR_i (pc := 674) (k1 := cells + 50) (n1 := slots + 10390) hw5 (by omega) (by omega) (rn_W (As := [.int x2, .int x4]) (rest := []) E (P_right hw5.1) (D_right hw5.2.1) (m_plan l D cI cJ Hr5.size _ q2 wm hM x2 x4) (gdV q_1986 q_1987 q_1988 q_162 q_1989) hdV_X12_plan ⟨rfl, rfl⟩ ⟨(Nat.le_of_ble_eq_true rfl), (Nat.le_of_ble_eq_true rfl)⟩ ⟨(by show _ ≤ 600000; omega), (by show _ ≤ 7302250; omega)⟩ xT_b xT_at 12 rfl rfl he2 rfl hl.1 rfl (Nat.le_of_ble_eq_true rfl) dL_law_674) (fun r10 w10 Hr10 locsr10 p10 hw10 => ?_)
  refine lv_pop (pc := 677) E.1 E.2.1 dL_law_677 rfl ?_
  refine lv_goto (pc := 678) (tgt := 1036) E.1 E.2.1 dL_law_678 (by decide) ?_
  exact kk _ _ _ _ _ _ p5 p10 hw10 hl
set_option maxHeartbeats 4000000 in
set_option maxRecDepth 100000 in
theorem lc_mend {p : Program} {l : Launch} {e : Env} {s : State} {m : MethodId} {below : List Frame} {meth : Method} {c : Code} {H : Heap} {locs : List Loc} {cells slots : Nat} {ls : Array Slot} {D : va_G} {A : Nat → Prop} {cI cJ cN : ClassId} {ad av : Nat → Nat} {tf : Value} {t1 t2 : Nat} {b L q1 q2 : Nat} {xs : Nat → Int32} {n : NB} {wc wm : va_W} {Q : State → Prop} (E : EN p c code 4 s #[Value.ref b] RL m D cI cJ) (hXs : va_X b L xs s s.heap) (hbl : b < s.heap.size) (hbA : ¬ A b) (hXC : xC D cI cJ cN ad av tf t1 t2 A s) (hR : cells + 50 ≤ 600000 ∧ slots + 10390 ≤ 7302250) (hL : L ≤ 3072) {i : Int32} (hi : 0 ≤ i.toInt ∧ i.toInt + 6 ≤ (L : Int)) (hC : CW cI cJ cN ad n q1 wc) (hM : RW cI cJ n q2 wm) (hw : WD D A s.heap (wc ++ wm) H locs) (hl : lv_has ls 4 [(3, .int i), (2, .ref q2), (1, .ref q1), (0, .ref b)]) (kk : ∀ (n : NB) (wc wm : va_W) (H : Heap) (locs : List Loc) (ls : Array Slot), CW cI cJ cN ad n q1 wc → RW cI cJ n q2 wm → WD D A s.heap (wc ++ wm) H locs → lv_has ls 4 [(3, .int i), (2, .ref q2), (1, .ref q1), (0, .ref b)] → W p l e room_1 s m #[Value.ref b] below meth c H locs (cells + 50) (slots + 10390) Q (F0 m 1036 ls [])) : W p l e room_1 s m #[Value.ref b] below meth c H locs cells slots Q (F0 m 681 ls []) := by
  obtain ⟨fs1, he1⟩ := cw_head hC
  obtain ⟨fs2, he2⟩ := rw_head hM
  refine lv_aload_n (pc := 681) E.1 E.2.1 dL_law_681 rfl (lv_at hl 2 rfl) ?_
  refine lv_aload_n (pc := 682) E.1 E.2.1 dL_law_682 rfl (lv_at hl 3 rfl) ?_
  refine lv_iload_n (pc := 683) E.1 E.2.1 dL_law_683 rfl (lv_at hl 0 rfl) ?_
  refine lv_iconst (pc := 684) (v := 1) E.1 E.2.1 dL_law_684 (by decide +kernel) ?_
  refine lv_iadd (pc := 685) E.1 E.2.1 dL_law_685 ?_
  refine lv_topi (fun v1 ev1 => ?_)
  have hv1 : v1.toInt = i.toInt + 1 := by rw [ev1]; exact addE rfl (by decide +kernel) (by omega)
  refine va_sld (pc := 686) E.1 E.2.1 hXs hbl hbA hw.2.2.1 (inbE (a := v1.toInt) rfl (by omega)) dL_law_686 ?_
  refine lv_topi (fun x2 ex2 => ?_)
  refine lcL_i (pc := 687) (k1 := cells + 50) (n1 := slots + 10390) hw (by omega) (by omega) (rn_W (As := [.int x2]) (rest := []) E (P_left hw.1) (D_left hw.2.1) (k_mend l D cI cJ cN H.size ad av tf t1 t2 _ q1 wc hC x2) (gdV q_1246 q_1247 q_1248 q_151 q_1249) hdV_X11_mend ⟨rfl, rfl⟩ ⟨(Nat.le_of_ble_eq_true rfl), (Nat.le_of_ble_eq_true rfl)⟩ ⟨(by show _ ≤ 600000; omega), (by show _ ≤ 7302250; omega)⟩ xC_b (xC_at hXC hw.2.2.1 (A_l hw)) 11 rfl rfl he1 rfl hl.1 rfl (Nat.le_of_ble_eq_true rfl) dL_law_687) (fun r3 w3 Hr3 locsr3 p3 hw3 => ?_)
  refine lv_pop (pc := 690) E.1 E.2.1 dL_law_690 rfl ?_
  refine lv_aload_n (pc := 691) E.1 E.2.1 dL_law_691 rfl (lv_at hl 1 rfl) ?_
  refine lv_aload_n (pc := 692) E.1 E.2.1 dL_law_692 rfl (lv_at hl 3 rfl) ?_
  refine lv_iload_n (pc := 693) E.1 E.2.1 dL_law_693 rfl (lv_at hl 0 rfl) ?_
  refine lv_iconst (pc := 694) (v := 1) E.1 E.2.1 dL_law_694 (by decide +kernel) ?_
  refine lv_iadd (pc := 695) E.1 E.2.1 dL_law_695 ?_
  refine lv_topi (fun v4 ev4 => ?_)
  have hv4 : v4.toInt = i.toInt + 1 := by rw [ev4]; exact addE rfl (by decide +kernel) (by omega)
  refine va_sld (pc := 696) E.1 E.2.1 hXs hbl hbA hw3.2.2.1 (inbE (a := v4.toInt) rfl (by omega)) dL_law_696 ?_
  refine lv_topi (fun x5 ex5 => ?_)
  have qx5 : x2 = x5 := by rw [ex2, ex5, ev1, ev4]
  subst qx5
  refine lcR_i (pc := 697) (k1 := cells + 50) (n1 := slots + 10390) hw3 (by omega) (by omega) (rn_W (As := [.int x2]) (rest := []) E (P_right hw3.1) (D_right hw3.2.1) (m_mend l D cI cJ Hr3.size _ q2 wm hM x2) (gdV q_2014 q_2015 q_2016 q_162 q_2017) hdV_X12_mend ⟨rfl, rfl⟩ ⟨(Nat.le_of_ble_eq_true rfl), (Nat.le_of_ble_eq_true rfl)⟩ ⟨(by show _ ≤ 600000; omega), (by show _ ≤ 7302250; omega)⟩ xT_b xT_at 12 rfl rfl he2 rfl hl.1 rfl (Nat.le_of_ble_eq_true rfl) dL_law_697) (fun r6 w6 Hr6 locsr6 p6 hw6 => ?_)
  refine lv_pop (pc := 700) E.1 E.2.1 dL_law_700 rfl ?_
  refine lv_goto (pc := 701) (tgt := 1036) E.1 E.2.1 dL_law_701 (by decide) ?_
  exact kk _ _ _ _ _ _ p3 p6 hw6 hl
set_option maxHeartbeats 4000000 in
set_option maxRecDepth 100000 in
theorem lc_rooms {p : Program} {l : Launch} {e : Env} {s : State} {m : MethodId} {below : List Frame} {meth : Method} {c : Code} {H : Heap} {locs : List Loc} {cells slots : Nat} {ls : Array Slot} {D : va_G} {A : Nat → Prop} {cI cJ cN : ClassId} {ad av : Nat → Nat} {tf : Value} {t1 t2 : Nat} {b L q1 q2 : Nat} {xs : Nat → Int32} {n : NB} {wc wm : va_W} {Q : State → Prop} (E : EN p c code 4 s #[Value.ref b] RL m D cI cJ) (hXs : va_X b L xs s s.heap) (hbl : b < s.heap.size) (hbA : ¬ A b) (hXC : xC D cI cJ cN ad av tf t1 t2 A s) (hR : cells + 50 ≤ 600000 ∧ slots + 10390 ≤ 7302250) (hL : L ≤ 3072) {i : Int32} (hi : 0 ≤ i.toInt ∧ i.toInt + 6 ≤ (L : Int)) (hC : CW cI cJ cN ad n q1 wc) (hM : RW cI cJ n q2 wm) (hw : WD D A s.heap (wc ++ wm) H locs) (hl : lv_has ls 4 [(3, .int i), (2, .ref q2), (1, .ref q1), (0, .ref b)]) (kk : ∀ (n : NB) (wc wm : va_W) (H : Heap) (locs : List Loc) (ls : Array Slot), CW cI cJ cN ad n q1 wc → RW cI cJ n q2 wm → WD D A s.heap (wc ++ wm) H locs → lv_has ls 4 [(3, .int i), (2, .ref q2), (1, .ref q1), (0, .ref b)] → W p l e room_1 s m #[Value.ref b] below meth c H locs (cells + 50) (slots + 10390) Q (F0 m 1036 ls [])) : W p l e room_1 s m #[Value.ref b] below meth c H locs cells slots Q (F0 m 704 ls []) := by
  obtain ⟨fs1, he1⟩ := cw_head hC
  obtain ⟨fs2, he2⟩ := rw_head hM
  refine lv_aload_n (pc := 704) E.1 E.2.1 dL_law_704 rfl (lv_at hl 2 rfl) ?_
  refine lv_aload_n (pc := 705) E.1 E.2.1 dL_law_705 rfl (lv_at hl 3 rfl) ?_
  refine lv_iload_n (pc := 706) E.1 E.2.1 dL_law_706 rfl (lv_at hl 0 rfl) ?_
  refine lv_iconst (pc := 707) (v := 1) E.1 E.2.1 dL_law_707 (by decide +kernel) ?_
  refine lv_iadd (pc := 708) E.1 E.2.1 dL_law_708 ?_
  refine lv_topi (fun v1 ev1 => ?_)
  have hv1 : v1.toInt = i.toInt + 1 := by rw [ev1]; exact addE rfl (by decide +kernel) (by omega)
  refine va_sld (pc := 709) E.1 E.2.1 hXs hbl hbA hw.2.2.1 (inbE (a := v1.toInt) rfl (by omega)) dL_law_709 ?_
  refine lv_topi (fun x2 ex2 => ?_)
  refine lcL_i (pc := 710) (k1 := cells + 50) (n1 := slots + 10390) hw (by omega) (by omega) (rn_W (As := [.int x2]) (rest := []) E (P_left hw.1) (D_left hw.2.1) (k_rooms l D cI cJ cN H.size ad av tf t1 t2 _ q1 wc hC x2) (gdV q_1260 q_1261 q_1262 q_151 q_1263) hdV_X11_rooms ⟨rfl, rfl⟩ ⟨(Nat.le_of_ble_eq_true rfl), (Nat.le_of_ble_eq_true rfl)⟩ ⟨(by show _ ≤ 600000; omega), (by show _ ≤ 7302250; omega)⟩ xC_b (xC_at hXC hw.2.2.1 (A_l hw)) 11 rfl rfl he1 rfl hl.1 rfl (Nat.le_of_ble_eq_true rfl) dL_law_710) (fun r3 w3 Hr3 locsr3 p3 hw3 => ?_)
  refine lv_aload_n (pc := 713) E.1 E.2.1 dL_law_713 rfl (lv_at hl 1 rfl) ?_
  refine lv_aload_n (pc := 714) E.1 E.2.1 dL_law_714 rfl (lv_at hl 3 rfl) ?_
  refine lv_iload_n (pc := 715) E.1 E.2.1 dL_law_715 rfl (lv_at hl 0 rfl) ?_
  refine lv_iconst (pc := 716) (v := 1) E.1 E.2.1 dL_law_716 (by decide +kernel) ?_
  refine lv_iadd (pc := 717) E.1 E.2.1 dL_law_717 ?_
  refine lv_topi (fun v4 ev4 => ?_)
  have hv4 : v4.toInt = i.toInt + 1 := by rw [ev4]; exact addE rfl (by decide +kernel) (by omega)
  refine va_sld (pc := 718) E.1 E.2.1 hXs hbl hbA hw3.2.2.1 (inbE (a := v4.toInt) rfl (by omega)) dL_law_718 ?_
  refine lv_topi (fun x5 ex5 => ?_)
  have qx5 : x2 = x5 := by rw [ex2, ex5, ev1, ev4]
  subst qx5
  refine lcR_i (pc := 719) (k1 := cells + 50) (n1 := slots + 10390) hw3 (by omega) (by omega) (rn_W (As := [.int x2]) (rest := [.int r3]) E (P_right hw3.1) (D_right hw3.2.1) (m_rooms l D cI cJ Hr3.size _ q2 wm hM x2) (gdV q_2022 q_2023 q_2024 q_162 q_2025) hdV_X12_rooms ⟨rfl, rfl⟩ ⟨(Nat.le_of_ble_eq_true rfl), (Nat.le_of_ble_eq_true rfl)⟩ ⟨(by show _ ≤ 600000; omega), (by show _ ≤ 7302250; omega)⟩ xT_b xT_at 12 rfl rfl he2 rfl hl.1 rfl (Nat.le_of_ble_eq_true rfl) dL_law_719) (fun r6 w6 Hr6 locsr6 p6 hw6 => ?_)
  refine lv_icmp_eq (pc := 722) (tgt := 1036) E.1 E.2.1 dL_law_722 (by decide) (fun _ => ?_) (fun cf => absurd (Int32.toInt_inj.mp (p3.1.trans p6.1.symm)) cf)
  exact kk _ _ _ _ _ _ p3.2 p6.2 hw6 hl
set_option maxHeartbeats 4000000 in
set_option maxRecDepth 100000 in
theorem lc_sale {p : Program} {l : Launch} {e : Env} {s : State} {m : MethodId} {below : List Frame} {meth : Method} {c : Code} {H : Heap} {locs : List Loc} {cells slots : Nat} {ls : Array Slot} {D : va_G} {A : Nat → Prop} {cI cJ cN : ClassId} {ad av : Nat → Nat} {tf : Value} {t1 t2 : Nat} {b L q1 q2 : Nat} {xs : Nat → Int32} {n : NB} {wc wm : va_W} {Q : State → Prop} (E : EN p c code 4 s #[Value.ref b] RL m D cI cJ) (hXs : va_X b L xs s s.heap) (hbl : b < s.heap.size) (hbA : ¬ A b) (hXC : xC D cI cJ cN ad av tf t1 t2 A s) (hR : cells + 50 ≤ 600000 ∧ slots + 10390 ≤ 7302250) (hL : L ≤ 3072) {i : Int32} (hi : 0 ≤ i.toInt ∧ i.toInt + 6 ≤ (L : Int)) (hC : CW cI cJ cN ad n q1 wc) (hM : RW cI cJ n q2 wm) (hw : WD D A s.heap (wc ++ wm) H locs) (hl : lv_has ls 4 [(3, .int i), (2, .ref q2), (1, .ref q1), (0, .ref b)]) (kk : ∀ (n : NB) (wc wm : va_W) (H : Heap) (locs : List Loc) (ls : Array Slot), CW cI cJ cN ad n q1 wc → RW cI cJ n q2 wm → WD D A s.heap (wc ++ wm) H locs → lv_has ls 4 [(3, .int i), (2, .ref q2), (1, .ref q1), (0, .ref b)] → W p l e room_1 s m #[Value.ref b] below meth c H locs (cells + 50) (slots + 10390) Q (F0 m 1036 ls [])) : W p l e room_1 s m #[Value.ref b] below meth c H locs cells slots Q (F0 m 727 ls []) := by
  obtain ⟨fs1, he1⟩ := cw_head hC
  obtain ⟨fs2, he2⟩ := rw_head hM
  refine lv_aload_n (pc := 727) E.1 E.2.1 dL_law_727 rfl (lv_at hl 2 rfl) ?_
  refine lv_aload_n (pc := 728) E.1 E.2.1 dL_law_728 rfl (lv_at hl 3 rfl) ?_
  refine lv_iload_n (pc := 729) E.1 E.2.1 dL_law_729 rfl (lv_at hl 0 rfl) ?_
  refine lv_iconst (pc := 730) (v := 1) E.1 E.2.1 dL_law_730 (by decide +kernel) ?_
  refine lv_iadd (pc := 731) E.1 E.2.1 dL_law_731 ?_
  refine lv_topi (fun v1 ev1 => ?_)
  have hv1 : v1.toInt = i.toInt + 1 := by rw [ev1]; exact addE rfl (by decide +kernel) (by omega)
  refine va_sld (pc := 732) E.1 E.2.1 hXs hbl hbA hw.2.2.1 (inbE (a := v1.toInt) rfl (by omega)) dL_law_732 ?_
  refine lv_topi (fun x2 ex2 => ?_)
  refine lcL_i (pc := 733) (k1 := cells + 50) (n1 := slots + 10390) hw (by omega) (by omega) (rn_W (As := [.int x2]) (rest := []) E (P_left hw.1) (D_left hw.2.1) (k_sale l D cI cJ cN H.size ad av tf t1 t2 _ q1 wc hC x2) (gdV q_1288 q_1289 q_1290 q_151 q_1291) hdV_X11_sale ⟨rfl, rfl⟩ ⟨(Nat.le_of_ble_eq_true rfl), (Nat.le_of_ble_eq_true rfl)⟩ ⟨(by show _ ≤ 600000; omega), (by show _ ≤ 7302250; omega)⟩ xC_b (xC_at hXC hw.2.2.1 (A_l hw)) 11 rfl rfl he1 rfl hl.1 rfl (Nat.le_of_ble_eq_true rfl) dL_law_733) (fun r3 w3 Hr3 locsr3 p3 hw3 => ?_)
  refine lv_pop (pc := 736) E.1 E.2.1 dL_law_736 rfl ?_
  refine lv_aload_n (pc := 737) E.1 E.2.1 dL_law_737 rfl (lv_at hl 1 rfl) ?_
  refine lv_aload_n (pc := 738) E.1 E.2.1 dL_law_738 rfl (lv_at hl 3 rfl) ?_
  refine lv_iload_n (pc := 739) E.1 E.2.1 dL_law_739 rfl (lv_at hl 0 rfl) ?_
  refine lv_iconst (pc := 740) (v := 1) E.1 E.2.1 dL_law_740 (by decide +kernel) ?_
  refine lv_iadd (pc := 741) E.1 E.2.1 dL_law_741 ?_
  refine lv_topi (fun v4 ev4 => ?_)
  have hv4 : v4.toInt = i.toInt + 1 := by rw [ev4]; exact addE rfl (by decide +kernel) (by omega)
  refine va_sld (pc := 742) E.1 E.2.1 hXs hbl hbA hw3.2.2.1 (inbE (a := v4.toInt) rfl (by omega)) dL_law_742 ?_
  refine lv_topi (fun x5 ex5 => ?_)
  have qx5 : x2 = x5 := by rw [ex2, ex5, ev1, ev4]
  subst qx5
  refine lcR_i (pc := 743) (k1 := cells + 50) (n1 := slots + 10390) hw3 (by omega) (by omega) (rn_W (As := [.int x2]) (rest := []) E (P_right hw3.1) (D_right hw3.2.1) (m_sale l D cI cJ Hr3.size _ q2 wm hM x2) (gdV q_2050 q_2051 q_2052 q_162 q_2053) hdV_X12_sale ⟨rfl, rfl⟩ ⟨(Nat.le_of_ble_eq_true rfl), (Nat.le_of_ble_eq_true rfl)⟩ ⟨(by show _ ≤ 600000; omega), (by show _ ≤ 7302250; omega)⟩ xT_b xT_at 12 rfl rfl he2 rfl hl.1 rfl (Nat.le_of_ble_eq_true rfl) dL_law_743) (fun r6 w6 Hr6 locsr6 p6 hw6 => ?_)
  refine lv_pop (pc := 746) E.1 E.2.1 dL_law_746 rfl ?_
  refine lv_goto (pc := 747) (tgt := 1036) E.1 E.2.1 dL_law_747 (by decide) ?_
  exact kk _ _ _ _ _ _ p3 p6 hw6 hl
set_option maxHeartbeats 4000000 in
set_option maxRecDepth 100000 in
theorem lc_liars {p : Program} {l : Launch} {e : Env} {s : State} {m : MethodId} {below : List Frame} {meth : Method} {c : Code} {H : Heap} {locs : List Loc} {cells slots : Nat} {ls : Array Slot} {D : va_G} {A : Nat → Prop} {cI cJ cN : ClassId} {ad av : Nat → Nat} {tf : Value} {t1 t2 : Nat} {b L q1 q2 : Nat} {xs : Nat → Int32} {n : NB} {wc wm : va_W} {Q : State → Prop} (E : EN p c code 4 s #[Value.ref b] RL m D cI cJ) (hXs : va_X b L xs s s.heap) (hbl : b < s.heap.size) (hbA : ¬ A b) (hXC : xC D cI cJ cN ad av tf t1 t2 A s) (hR : cells + 50 ≤ 600000 ∧ slots + 10390 ≤ 7302250) (hL : L ≤ 3072) {i : Int32} (hi : 0 ≤ i.toInt ∧ i.toInt + 6 ≤ (L : Int)) (hC : CW cI cJ cN ad n q1 wc) (hM : RW cI cJ n q2 wm) (hw : WD D A s.heap (wc ++ wm) H locs) (hl : lv_has ls 4 [(3, .int i), (2, .ref q2), (1, .ref q1), (0, .ref b)]) (kk : ∀ (n : NB) (wc wm : va_W) (H : Heap) (locs : List Loc) (ls : Array Slot), CW cI cJ cN ad n q1 wc → RW cI cJ n q2 wm → WD D A s.heap (wc ++ wm) H locs → lv_has ls 4 [(3, .int i), (2, .ref q2), (1, .ref q1), (0, .ref b)] → W p l e room_1 s m #[Value.ref b] below meth c H locs (cells + 50) (slots + 10390) Q (F0 m 1036 ls [])) : W p l e room_1 s m #[Value.ref b] below meth c H locs cells slots Q (F0 m 750 ls []) := by
  obtain ⟨fs1, he1⟩ := cw_head hC
  obtain ⟨fs2, he2⟩ := rw_head hM
  refine lv_aload_n (pc := 750) E.1 E.2.1 dL_law_750 rfl (lv_at hl 2 rfl) ?_
  refine lcL_i (pc := 751) (k1 := cells + 50) (n1 := slots + 10390) hw (by omega) (by omega) (rn_W (As := []) (rest := []) E (P_left hw.1) (D_left hw.2.1) (k_liars l D cI cJ cN H.size ad av tf t1 t2 _ q1 wc hC ) (gdV q_1296 q_1297 q_1298 q_151 q_1299) hdV_X11_liars ⟨rfl, rfl⟩ ⟨(Nat.le_of_ble_eq_true rfl), (Nat.le_of_ble_eq_true rfl)⟩ ⟨(by show _ ≤ 600000; omega), (by show _ ≤ 7302250; omega)⟩ xC_b (xC_at hXC hw.2.2.1 (A_l hw)) 11 rfl rfl he1 rfl hl.1 rfl (Nat.le_of_ble_eq_true rfl) dL_law_751) (fun r1 w1 Hr1 locsr1 p1 hw1 => ?_)
  refine lv_pop (pc := 754) E.1 E.2.1 dL_law_754 rfl ?_
  refine lv_aload_n (pc := 755) E.1 E.2.1 dL_law_755 rfl (lv_at hl 1 rfl) ?_
  refine lcR_i (pc := 756) (k1 := cells + 50) (n1 := slots + 10390) hw1 (by omega) (by omega) (rn_W (As := []) (rest := []) E (P_right hw1.1) (D_right hw1.2.1) (m_liars l D cI cJ Hr1.size _ q2 wm hM ) (gdV q_2058 q_2059 q_2060 q_162 q_2061) hdV_X12_liars ⟨rfl, rfl⟩ ⟨(Nat.le_of_ble_eq_true rfl), (Nat.le_of_ble_eq_true rfl)⟩ ⟨(by show _ ≤ 600000; omega), (by show _ ≤ 7302250; omega)⟩ xT_b xT_at 12 rfl rfl he2 rfl hl.1 rfl (Nat.le_of_ble_eq_true rfl) dL_law_756) (fun r2 w2 Hr2 locsr2 p2 hw2 => ?_)
  refine lv_pop (pc := 759) E.1 E.2.1 dL_law_759 rfl ?_
  refine lv_goto (pc := 760) (tgt := 1036) E.1 E.2.1 dL_law_760 (by decide) ?_
  exact kk _ _ _ _ _ _ p1 p2 hw2 hl
set_option maxHeartbeats 4000000 in
set_option maxRecDepth 100000 in
theorem lc_sure {p : Program} {l : Launch} {e : Env} {s : State} {m : MethodId} {below : List Frame} {meth : Method} {c : Code} {H : Heap} {locs : List Loc} {cells slots : Nat} {ls : Array Slot} {D : va_G} {A : Nat → Prop} {cI cJ cN : ClassId} {ad av : Nat → Nat} {tf : Value} {t1 t2 : Nat} {b L q1 q2 : Nat} {xs : Nat → Int32} {n : NB} {wc wm : va_W} {Q : State → Prop} (E : EN p c code 4 s #[Value.ref b] RL m D cI cJ) (hXs : va_X b L xs s s.heap) (hbl : b < s.heap.size) (hbA : ¬ A b) (hXC : xC D cI cJ cN ad av tf t1 t2 A s) (hR : cells + 50 ≤ 600000 ∧ slots + 10390 ≤ 7302250) (hL : L ≤ 3072) {i : Int32} (hi : 0 ≤ i.toInt ∧ i.toInt + 6 ≤ (L : Int)) (hC : CW cI cJ cN ad n q1 wc) (hM : RW cI cJ n q2 wm) (hw : WD D A s.heap (wc ++ wm) H locs) (hl : lv_has ls 4 [(3, .int i), (2, .ref q2), (1, .ref q1), (0, .ref b)]) (kk : ∀ (n : NB) (wc wm : va_W) (H : Heap) (locs : List Loc) (ls : Array Slot), CW cI cJ cN ad n q1 wc → RW cI cJ n q2 wm → WD D A s.heap (wc ++ wm) H locs → lv_has ls 4 [(3, .int i), (2, .ref q2), (1, .ref q1), (0, .ref b)] → W p l e room_1 s m #[Value.ref b] below meth c H locs (cells + 50) (slots + 10390) Q (F0 m 1036 ls [])) : W p l e room_1 s m #[Value.ref b] below meth c H locs cells slots Q (F0 m 763 ls []) := by
  obtain ⟨fs1, he1⟩ := cw_head hC
  obtain ⟨fs2, he2⟩ := rw_head hM
  refine lv_aload_n (pc := 763) E.1 E.2.1 dL_law_763 rfl (lv_at hl 2 rfl) ?_
  refine lv_aload_n (pc := 764) E.1 E.2.1 dL_law_764 rfl (lv_at hl 3 rfl) ?_
  refine lv_iload_n (pc := 765) E.1 E.2.1 dL_law_765 rfl (lv_at hl 0 rfl) ?_
  refine lv_iconst (pc := 766) (v := 1) E.1 E.2.1 dL_law_766 (by decide +kernel) ?_
  refine lv_iadd (pc := 767) E.1 E.2.1 dL_law_767 ?_
  refine lv_topi (fun v1 ev1 => ?_)
  have hv1 : v1.toInt = i.toInt + 1 := by rw [ev1]; exact addE rfl (by decide +kernel) (by omega)
  refine va_sld (pc := 768) E.1 E.2.1 hXs hbl hbA hw.2.2.1 (inbE (a := v1.toInt) rfl (by omega)) dL_law_768 ?_
  refine lv_topi (fun x2 ex2 => ?_)
  refine lv_aload_n (pc := 769) E.1 E.2.1 dL_law_769 rfl (lv_at hl 3 rfl) ?_
  refine lv_iload_n (pc := 770) E.1 E.2.1 dL_law_770 rfl (lv_at hl 0 rfl) ?_
  refine lv_iconst (pc := 771) (v := 2) E.1 E.2.1 dL_law_771 (by decide +kernel) ?_
  refine lv_iadd (pc := 772) E.1 E.2.1 dL_law_772 ?_
  refine lv_topi (fun v3 ev3 => ?_)
  have hv3 : v3.toInt = i.toInt + 2 := by rw [ev3]; exact addE rfl (by decide +kernel) (by omega)
  refine va_sld (pc := 773) E.1 E.2.1 hXs hbl hbA hw.2.2.1 (inbE (a := v3.toInt) rfl (by omega)) dL_law_773 ?_
  refine lv_topi (fun x4 ex4 => ?_)
  refine lv_aload_n (pc := 774) E.1 E.2.1 dL_law_774 rfl (lv_at hl 3 rfl) ?_
  refine lv_iload_n (pc := 775) E.1 E.2.1 dL_law_775 rfl (lv_at hl 0 rfl) ?_
  refine lv_iconst (pc := 776) (v := 3) E.1 E.2.1 dL_law_776 (by decide +kernel) ?_
  refine lv_iadd (pc := 777) E.1 E.2.1 dL_law_777 ?_
  refine lv_topi (fun v5 ev5 => ?_)
  have hv5 : v5.toInt = i.toInt + 3 := by rw [ev5]; exact addE rfl (by decide +kernel) (by omega)
  refine va_sld (pc := 778) E.1 E.2.1 hXs hbl hbA hw.2.2.1 (inbE (a := v5.toInt) rfl (by omega)) dL_law_778 ?_
  refine lv_topi (fun x6 ex6 => ?_)
  refine lcL_i (pc := 779) (k1 := cells + 50) (n1 := slots + 10390) hw (by omega) (by omega) (rn_W (As := [.int x2, .int x4, .int x6]) (rest := []) E (P_left hw.1) (D_left hw.2.1) (k_sure l D cI cJ cN H.size ad av tf t1 t2 _ q1 wc hC x2 x4 x6) (gdV q_1300 q_1301 q_1302 q_151 q_1303) hdV_X11_sure ⟨rfl, rfl⟩ ⟨(Nat.le_of_ble_eq_true rfl), (Nat.le_of_ble_eq_true rfl)⟩ ⟨(by show _ ≤ 600000; omega), (by show _ ≤ 7302250; omega)⟩ xC_b (xC_at hXC hw.2.2.1 (A_l hw)) 11 rfl rfl he1 rfl hl.1 rfl (Nat.le_of_ble_eq_true rfl) dL_law_779) (fun r7 w7 Hr7 locsr7 p7 hw7 => ?_)
  refine lv_pop (pc := 782) E.1 E.2.1 dL_law_782 rfl ?_
  refine lv_aload_n (pc := 783) E.1 E.2.1 dL_law_783 rfl (lv_at hl 1 rfl) ?_
  refine lv_aload_n (pc := 784) E.1 E.2.1 dL_law_784 rfl (lv_at hl 3 rfl) ?_
  refine lv_iload_n (pc := 785) E.1 E.2.1 dL_law_785 rfl (lv_at hl 0 rfl) ?_
  refine lv_iconst (pc := 786) (v := 1) E.1 E.2.1 dL_law_786 (by decide +kernel) ?_
  refine lv_iadd (pc := 787) E.1 E.2.1 dL_law_787 ?_
  refine lv_topi (fun v8 ev8 => ?_)
  have hv8 : v8.toInt = i.toInt + 1 := by rw [ev8]; exact addE rfl (by decide +kernel) (by omega)
  refine va_sld (pc := 788) E.1 E.2.1 hXs hbl hbA hw7.2.2.1 (inbE (a := v8.toInt) rfl (by omega)) dL_law_788 ?_
  refine lv_topi (fun x9 ex9 => ?_)
  have qx9 : x2 = x9 := by rw [ex2, ex9, ev1, ev8]
  subst qx9
  refine lv_aload_n (pc := 789) E.1 E.2.1 dL_law_789 rfl (lv_at hl 3 rfl) ?_
  refine lv_iload_n (pc := 790) E.1 E.2.1 dL_law_790 rfl (lv_at hl 0 rfl) ?_
  refine lv_iconst (pc := 791) (v := 2) E.1 E.2.1 dL_law_791 (by decide +kernel) ?_
  refine lv_iadd (pc := 792) E.1 E.2.1 dL_law_792 ?_
  refine lv_topi (fun v10 ev10 => ?_)
  have hv10 : v10.toInt = i.toInt + 2 := by rw [ev10]; exact addE rfl (by decide +kernel) (by omega)
  refine va_sld (pc := 793) E.1 E.2.1 hXs hbl hbA hw7.2.2.1 (inbE (a := v10.toInt) rfl (by omega)) dL_law_793 ?_
  refine lv_topi (fun x11 ex11 => ?_)
  have qx11 : x4 = x11 := by rw [ex4, ex11, ev3, ev10]
  subst qx11
  refine lv_aload_n (pc := 794) E.1 E.2.1 dL_law_794 rfl (lv_at hl 3 rfl) ?_
  refine lv_iload_n (pc := 795) E.1 E.2.1 dL_law_795 rfl (lv_at hl 0 rfl) ?_
  refine lv_iconst (pc := 796) (v := 3) E.1 E.2.1 dL_law_796 (by decide +kernel) ?_
  refine lv_iadd (pc := 797) E.1 E.2.1 dL_law_797 ?_
  refine lv_topi (fun v12 ev12 => ?_)
  have hv12 : v12.toInt = i.toInt + 3 := by rw [ev12]; exact addE rfl (by decide +kernel) (by omega)
  refine va_sld (pc := 798) E.1 E.2.1 hXs hbl hbA hw7.2.2.1 (inbE (a := v12.toInt) rfl (by omega)) dL_law_798 ?_
  refine lv_topi (fun x13 ex13 => ?_)
  have qx13 : x6 = x13 := by rw [ex6, ex13, ev5, ev12]
  subst qx13
  refine lcR_i (pc := 799) (k1 := cells + 50) (n1 := slots + 10390) hw7 (by omega) (by omega) (rn_W (As := [.int x2, .int x4, .int x6]) (rest := []) E (P_right hw7.1) (D_right hw7.2.1) (m_sure l D cI cJ Hr7.size _ q2 wm hM x2 x4 x6) (gdV q_2062 q_2063 q_2064 q_162 q_2065) hdV_X12_sure ⟨rfl, rfl⟩ ⟨(Nat.le_of_ble_eq_true rfl), (Nat.le_of_ble_eq_true rfl)⟩ ⟨(by show _ ≤ 600000; omega), (by show _ ≤ 7302250; omega)⟩ xT_b xT_at 12 rfl rfl he2 rfl hl.1 rfl (Nat.le_of_ble_eq_true rfl) dL_law_799) (fun r14 w14 Hr14 locsr14 p14 hw14 => ?_)
  refine lv_pop (pc := 802) E.1 E.2.1 dL_law_802 rfl ?_
  refine lv_goto (pc := 803) (tgt := 1036) E.1 E.2.1 dL_law_803 (by decide) ?_
  exact kk _ _ _ _ _ _ p7 p14 hw14 hl
set_option maxHeartbeats 4000000 in
set_option maxRecDepth 100000 in
theorem lc_best {p : Program} {l : Launch} {e : Env} {s : State} {m : MethodId} {below : List Frame} {meth : Method} {c : Code} {H : Heap} {locs : List Loc} {cells slots : Nat} {ls : Array Slot} {D : va_G} {A : Nat → Prop} {cI cJ cN : ClassId} {ad av : Nat → Nat} {tf : Value} {t1 t2 : Nat} {b L q1 q2 : Nat} {xs : Nat → Int32} {n : NB} {wc wm : va_W} {Q : State → Prop} (E : EN p c code 4 s #[Value.ref b] RL m D cI cJ) (hXs : va_X b L xs s s.heap) (hbl : b < s.heap.size) (hbA : ¬ A b) (hXC : xC D cI cJ cN ad av tf t1 t2 A s) (hR : cells + 50 ≤ 600000 ∧ slots + 10390 ≤ 7302250) (hL : L ≤ 3072) {i : Int32} (hi : 0 ≤ i.toInt ∧ i.toInt + 6 ≤ (L : Int)) (hC : CW cI cJ cN ad n q1 wc) (hM : RW cI cJ n q2 wm) (hw : WD D A s.heap (wc ++ wm) H locs) (hl : lv_has ls 4 [(3, .int i), (2, .ref q2), (1, .ref q1), (0, .ref b)]) (kk : ∀ (n : NB) (wc wm : va_W) (H : Heap) (locs : List Loc) (ls : Array Slot), CW cI cJ cN ad n q1 wc → RW cI cJ n q2 wm → WD D A s.heap (wc ++ wm) H locs → lv_has ls 4 [(3, .int i), (2, .ref q2), (1, .ref q1), (0, .ref b)] → W p l e room_1 s m #[Value.ref b] below meth c H locs (cells + 50) (slots + 10390) Q (F0 m 1036 ls [])) : W p l e room_1 s m #[Value.ref b] below meth c H locs cells slots Q (F0 m 806 ls []) := by
  obtain ⟨fs1, he1⟩ := cw_head hC
  obtain ⟨fs2, he2⟩ := rw_head hM
  refine lv_aload_n (pc := 806) E.1 E.2.1 dL_law_806 rfl (lv_at hl 2 rfl) ?_
  refine lv_aload_n (pc := 807) E.1 E.2.1 dL_law_807 rfl (lv_at hl 3 rfl) ?_
  refine lv_iload_n (pc := 808) E.1 E.2.1 dL_law_808 rfl (lv_at hl 0 rfl) ?_
  refine lv_iconst (pc := 809) (v := 1) E.1 E.2.1 dL_law_809 (by decide +kernel) ?_
  refine lv_iadd (pc := 810) E.1 E.2.1 dL_law_810 ?_
  refine lv_topi (fun v1 ev1 => ?_)
  have hv1 : v1.toInt = i.toInt + 1 := by rw [ev1]; exact addE rfl (by decide +kernel) (by omega)
  refine va_sld (pc := 811) E.1 E.2.1 hXs hbl hbA hw.2.2.1 (inbE (a := v1.toInt) rfl (by omega)) dL_law_811 ?_
  refine lv_topi (fun x2 ex2 => ?_)
  refine lv_aload_n (pc := 812) E.1 E.2.1 dL_law_812 rfl (lv_at hl 3 rfl) ?_
  refine lv_iload_n (pc := 813) E.1 E.2.1 dL_law_813 rfl (lv_at hl 0 rfl) ?_
  refine lv_iconst (pc := 814) (v := 2) E.1 E.2.1 dL_law_814 (by decide +kernel) ?_
  refine lv_iadd (pc := 815) E.1 E.2.1 dL_law_815 ?_
  refine lv_topi (fun v3 ev3 => ?_)
  have hv3 : v3.toInt = i.toInt + 2 := by rw [ev3]; exact addE rfl (by decide +kernel) (by omega)
  refine va_sld (pc := 816) E.1 E.2.1 hXs hbl hbA hw.2.2.1 (inbE (a := v3.toInt) rfl (by omega)) dL_law_816 ?_
  refine lv_topi (fun x4 ex4 => ?_)
  refine lcL_i (pc := 817) (k1 := cells + 50) (n1 := slots + 10390) hw (by omega) (by omega) (rn_W (As := [.int x2, .int x4]) (rest := []) E (P_left hw.1) (D_left hw.2.1) (k_best l D cI cJ cN H.size ad av tf t1 t2 _ q1 wc hC x2 x4) (gdV q_1314 q_1315 q_1316 q_151 q_1317) hdV_X11_best ⟨rfl, rfl⟩ ⟨(Nat.le_of_ble_eq_true rfl), (Nat.le_of_ble_eq_true rfl)⟩ ⟨(by show _ ≤ 600000; omega), (by show _ ≤ 7302250; omega)⟩ xC_b (xC_at hXC hw.2.2.1 (A_l hw)) 11 rfl rfl he1 rfl hl.1 rfl (Nat.le_of_ble_eq_true rfl) dL_law_817) (fun r5 w5 Hr5 locsr5 p5 hw5 => ?_)
  refine lv_pop (pc := 820) E.1 E.2.1 dL_law_820 rfl ?_
  refine lv_aload_n (pc := 821) E.1 E.2.1 dL_law_821 rfl (lv_at hl 1 rfl) ?_
  refine lv_aload_n (pc := 822) E.1 E.2.1 dL_law_822 rfl (lv_at hl 3 rfl) ?_
  refine lv_iload_n (pc := 823) E.1 E.2.1 dL_law_823 rfl (lv_at hl 0 rfl) ?_
  refine lv_iconst (pc := 824) (v := 1) E.1 E.2.1 dL_law_824 (by decide +kernel) ?_
  refine lv_iadd (pc := 825) E.1 E.2.1 dL_law_825 ?_
  refine lv_topi (fun v6 ev6 => ?_)
  have hv6 : v6.toInt = i.toInt + 1 := by rw [ev6]; exact addE rfl (by decide +kernel) (by omega)
  refine va_sld (pc := 826) E.1 E.2.1 hXs hbl hbA hw5.2.2.1 (inbE (a := v6.toInt) rfl (by omega)) dL_law_826 ?_
  refine lv_topi (fun x7 ex7 => ?_)
  have qx7 : x2 = x7 := by rw [ex2, ex7, ev1, ev6]
  subst qx7
  refine lv_aload_n (pc := 827) E.1 E.2.1 dL_law_827 rfl (lv_at hl 3 rfl) ?_
  refine lv_iload_n (pc := 828) E.1 E.2.1 dL_law_828 rfl (lv_at hl 0 rfl) ?_
  refine lv_iconst (pc := 829) (v := 2) E.1 E.2.1 dL_law_829 (by decide +kernel) ?_
  refine lv_iadd (pc := 830) E.1 E.2.1 dL_law_830 ?_
  refine lv_topi (fun v8 ev8 => ?_)
  have hv8 : v8.toInt = i.toInt + 2 := by rw [ev8]; exact addE rfl (by decide +kernel) (by omega)
  refine va_sld (pc := 831) E.1 E.2.1 hXs hbl hbA hw5.2.2.1 (inbE (a := v8.toInt) rfl (by omega)) dL_law_831 ?_
  refine lv_topi (fun x9 ex9 => ?_)
  have qx9 : x4 = x9 := by rw [ex4, ex9, ev3, ev8]
  subst qx9
  refine lcR_i (pc := 832) (k1 := cells + 50) (n1 := slots + 10390) hw5 (by omega) (by omega) (rn_W (As := [.int x2, .int x4]) (rest := []) E (P_right hw5.1) (D_right hw5.2.1) (m_best l D cI cJ Hr5.size _ q2 wm hM x2 x4) (gdV q_2080 q_2081 q_2082 q_162 q_2083) hdV_X12_best ⟨rfl, rfl⟩ ⟨(Nat.le_of_ble_eq_true rfl), (Nat.le_of_ble_eq_true rfl)⟩ ⟨(by show _ ≤ 600000; omega), (by show _ ≤ 7302250; omega)⟩ xT_b xT_at 12 rfl rfl he2 rfl hl.1 rfl (Nat.le_of_ble_eq_true rfl) dL_law_832) (fun r10 w10 Hr10 locsr10 p10 hw10 => ?_)
  refine lv_pop (pc := 835) E.1 E.2.1 dL_law_835 rfl ?_
  refine lv_goto (pc := 836) (tgt := 1036) E.1 E.2.1 dL_law_836 (by decide) ?_
  exact kk _ _ _ _ _ _ p5 p10 hw10 hl
set_option maxHeartbeats 4000000 in
set_option maxRecDepth 100000 in
theorem lc_clue {p : Program} {l : Launch} {e : Env} {s : State} {m : MethodId} {below : List Frame} {meth : Method} {c : Code} {H : Heap} {locs : List Loc} {cells slots : Nat} {ls : Array Slot} {D : va_G} {A : Nat → Prop} {cI cJ cN : ClassId} {ad av : Nat → Nat} {tf : Value} {t1 t2 : Nat} {b L q1 q2 : Nat} {xs : Nat → Int32} {n : NB} {wc wm : va_W} {Q : State → Prop} (E : EN p c code 4 s #[Value.ref b] RL m D cI cJ) (hXs : va_X b L xs s s.heap) (hbl : b < s.heap.size) (hbA : ¬ A b) (hXC : xC D cI cJ cN ad av tf t1 t2 A s) (hR : cells + 50 ≤ 600000 ∧ slots + 10390 ≤ 7302250) (hL : L ≤ 3072) {i : Int32} (hi : 0 ≤ i.toInt ∧ i.toInt + 6 ≤ (L : Int)) (hC : CW cI cJ cN ad n q1 wc) (hM : RW cI cJ n q2 wm) (hw : WD D A s.heap (wc ++ wm) H locs) (hl : lv_has ls 4 [(3, .int i), (2, .ref q2), (1, .ref q1), (0, .ref b)]) (kk : ∀ (n : NB) (wc wm : va_W) (H : Heap) (locs : List Loc) (ls : Array Slot), CW cI cJ cN ad n q1 wc → RW cI cJ n q2 wm → WD D A s.heap (wc ++ wm) H locs → lv_has ls 4 [(3, .int i), (2, .ref q2), (1, .ref q1), (0, .ref b)] → W p l e room_1 s m #[Value.ref b] below meth c H locs (cells + 50) (slots + 10390) Q (F0 m 1036 ls [])) : W p l e room_1 s m #[Value.ref b] below meth c H locs cells slots Q (F0 m 839 ls []) := by
  obtain ⟨fs1, he1⟩ := cw_head hC
  obtain ⟨fs2, he2⟩ := rw_head hM
  refine lv_aload_n (pc := 839) E.1 E.2.1 dL_law_839 rfl (lv_at hl 2 rfl) ?_
  refine lv_aload_n (pc := 840) E.1 E.2.1 dL_law_840 rfl (lv_at hl 3 rfl) ?_
  refine lv_iload_n (pc := 841) E.1 E.2.1 dL_law_841 rfl (lv_at hl 0 rfl) ?_
  refine lv_iconst (pc := 842) (v := 1) E.1 E.2.1 dL_law_842 (by decide +kernel) ?_
  refine lv_iadd (pc := 843) E.1 E.2.1 dL_law_843 ?_
  refine lv_topi (fun v1 ev1 => ?_)
  have hv1 : v1.toInt = i.toInt + 1 := by rw [ev1]; exact addE rfl (by decide +kernel) (by omega)
  refine va_sld (pc := 844) E.1 E.2.1 hXs hbl hbA hw.2.2.1 (inbE (a := v1.toInt) rfl (by omega)) dL_law_844 ?_
  refine lv_topi (fun x2 ex2 => ?_)
  refine lv_aload_n (pc := 845) E.1 E.2.1 dL_law_845 rfl (lv_at hl 3 rfl) ?_
  refine lv_iload_n (pc := 846) E.1 E.2.1 dL_law_846 rfl (lv_at hl 0 rfl) ?_
  refine lv_iconst (pc := 847) (v := 2) E.1 E.2.1 dL_law_847 (by decide +kernel) ?_
  refine lv_iadd (pc := 848) E.1 E.2.1 dL_law_848 ?_
  refine lv_topi (fun v3 ev3 => ?_)
  have hv3 : v3.toInt = i.toInt + 2 := by rw [ev3]; exact addE rfl (by decide +kernel) (by omega)
  refine va_sld (pc := 849) E.1 E.2.1 hXs hbl hbA hw.2.2.1 (inbE (a := v3.toInt) rfl (by omega)) dL_law_849 ?_
  refine lv_topi (fun x4 ex4 => ?_)
  refine lcL_i (pc := 850) (k1 := cells + 50) (n1 := slots + 10390) hw (by omega) (by omega) (rn_W (As := [.int x2, .int x4]) (rest := []) E (P_left hw.1) (D_left hw.2.1) (k_clue l D cI cJ cN H.size ad av tf t1 t2 _ q1 wc hC x2 x4) (gdV q_1318 q_1319 q_1320 q_151 q_1321) hdV_X11_clue ⟨rfl, rfl⟩ ⟨(Nat.le_of_ble_eq_true rfl), (Nat.le_of_ble_eq_true rfl)⟩ ⟨(by show _ ≤ 600000; omega), (by show _ ≤ 7302250; omega)⟩ xC_b (xC_at hXC hw.2.2.1 (A_l hw)) 11 rfl rfl he1 rfl hl.1 rfl (Nat.le_of_ble_eq_true rfl) dL_law_850) (fun r5 w5 Hr5 locsr5 p5 hw5 => ?_)
  refine lv_pop (pc := 853) E.1 E.2.1 dL_law_853 rfl ?_
  refine lv_aload_n (pc := 854) E.1 E.2.1 dL_law_854 rfl (lv_at hl 1 rfl) ?_
  refine lv_aload_n (pc := 855) E.1 E.2.1 dL_law_855 rfl (lv_at hl 3 rfl) ?_
  refine lv_iload_n (pc := 856) E.1 E.2.1 dL_law_856 rfl (lv_at hl 0 rfl) ?_
  refine lv_iconst (pc := 857) (v := 1) E.1 E.2.1 dL_law_857 (by decide +kernel) ?_
  refine lv_iadd (pc := 858) E.1 E.2.1 dL_law_858 ?_
  refine lv_topi (fun v6 ev6 => ?_)
  have hv6 : v6.toInt = i.toInt + 1 := by rw [ev6]; exact addE rfl (by decide +kernel) (by omega)
  refine va_sld (pc := 859) E.1 E.2.1 hXs hbl hbA hw5.2.2.1 (inbE (a := v6.toInt) rfl (by omega)) dL_law_859 ?_
  refine lv_topi (fun x7 ex7 => ?_)
  have qx7 : x2 = x7 := by rw [ex2, ex7, ev1, ev6]
  subst qx7
  refine lv_aload_n (pc := 860) E.1 E.2.1 dL_law_860 rfl (lv_at hl 3 rfl) ?_
  refine lv_iload_n (pc := 861) E.1 E.2.1 dL_law_861 rfl (lv_at hl 0 rfl) ?_
  refine lv_iconst (pc := 862) (v := 2) E.1 E.2.1 dL_law_862 (by decide +kernel) ?_
  refine lv_iadd (pc := 863) E.1 E.2.1 dL_law_863 ?_
  refine lv_topi (fun v8 ev8 => ?_)
  have hv8 : v8.toInt = i.toInt + 2 := by rw [ev8]; exact addE rfl (by decide +kernel) (by omega)
  refine va_sld (pc := 864) E.1 E.2.1 hXs hbl hbA hw5.2.2.1 (inbE (a := v8.toInt) rfl (by omega)) dL_law_864 ?_
  refine lv_topi (fun x9 ex9 => ?_)
  have qx9 : x4 = x9 := by rw [ex4, ex9, ev3, ev8]
  subst qx9
  refine lcR_i (pc := 865) (k1 := cells + 50) (n1 := slots + 10390) hw5 (by omega) (by omega) (rn_W (As := [.int x2, .int x4]) (rest := []) E (P_right hw5.1) (D_right hw5.2.1) (m_clue l D cI cJ Hr5.size _ q2 wm hM x2 x4) (gdV q_2084 q_2085 q_2086 q_162 q_2087) hdV_X12_clue ⟨rfl, rfl⟩ ⟨(Nat.le_of_ble_eq_true rfl), (Nat.le_of_ble_eq_true rfl)⟩ ⟨(by show _ ≤ 600000; omega), (by show _ ≤ 7302250; omega)⟩ xT_b xT_at 12 rfl rfl he2 rfl hl.1 rfl (Nat.le_of_ble_eq_true rfl) dL_law_865) (fun r10 w10 Hr10 locsr10 p10 hw10 => ?_)
  refine lv_pop (pc := 868) E.1 E.2.1 dL_law_868 rfl ?_
  refine lv_goto (pc := 869) (tgt := 1036) E.1 E.2.1 dL_law_869 (by decide) ?_
  exact kk _ _ _ _ _ _ p5.2 p10.2 hw10 hl
