set_option maxHeartbeats 4000000 in
set_option maxRecDepth 100000 in
theorem lc_ways {p : Program} {l : Launch} {e : Env} {s : State} {m : MethodId} {below : List Frame} {meth : Method} {c : Code} {H : Heap} {locs : List Loc} {cells slots : Nat} {ls : Array Slot} {D : va_G} {A : Nat → Prop} {cI cJ cN : ClassId} {ad av : Nat → Nat} {tf : Value} {t1 t2 : Nat} {b L q1 q2 : Nat} {xs : Nat → Int32} {n : NB} {wc wm : va_W} {Q : State → Prop} (E : EN p c code 4 s #[Value.ref b] RL m D cI cJ) (hXs : va_X b L xs s s.heap) (hbl : b < s.heap.size) (hbA : ¬ A b) (hXC : xC D cI cJ cN ad av tf t1 t2 A s) (hR : cells + 50 ≤ 600000 ∧ slots + 10390 ≤ 7302250) (hL : L ≤ 3072) {i : Int32} (hi : 0 ≤ i.toInt ∧ i.toInt + 6 ≤ (L : Int)) (hC : CW cI cJ cN ad n q1 wc) (hM : RW cI cJ n q2 wm) (hw : WD D A s.heap (wc ++ wm) H locs) (hl : lv_has ls 4 [(3, .int i), (2, .ref q2), (1, .ref q1), (0, .ref b)]) (kk : ∀ (n : NB) (wc wm : va_W) (H : Heap) (locs : List Loc) (ls : Array Slot), CW cI cJ cN ad n q1 wc → RW cI cJ n q2 wm → WD D A s.heap (wc ++ wm) H locs → lv_has ls 4 [(3, .int i), (2, .ref q2), (1, .ref q1), (0, .ref b)] → W p l e room_1 s m #[Value.ref b] below meth c H locs (cells + 50) (slots + 10390) Q (F0 m 1036 ls [])) : W p l e room_1 s m #[Value.ref b] below meth c H locs cells slots Q (F0 m 872 ls []) := by
  obtain ⟨fs1, he1⟩ := cw_head hC
  obtain ⟨fs2, he2⟩ := rw_head hM
  refine lv_aload_n (pc := 872) E.1 E.2.1 dL_law_872 rfl (lv_at hl 2 rfl) ?_
  refine lv_aload_n (pc := 873) E.1 E.2.1 dL_law_873 rfl (lv_at hl 3 rfl) ?_
  refine lv_iload_n (pc := 874) E.1 E.2.1 dL_law_874 rfl (lv_at hl 0 rfl) ?_
  refine lv_iconst (pc := 875) (v := 1) E.1 E.2.1 dL_law_875 (by decide +kernel) ?_
  refine lv_iadd (pc := 876) E.1 E.2.1 dL_law_876 ?_
  refine lv_topi (fun v1 ev1 => ?_)
  have hv1 : v1.toInt = i.toInt + 1 := by rw [ev1]; exact addE rfl (by decide +kernel) (by omega)
  refine va_sld (pc := 877) E.1 E.2.1 hXs hbl hbA hw.2.2.1 (inbE (a := v1.toInt) rfl (by omega)) dL_law_877 ?_
  refine lv_topi (fun x2 ex2 => ?_)
  refine lcL_l (pc := 878) (k1 := cells + 50) (n1 := slots + 10390) hw (by omega) (by omega) (rn_W (As := [.int x2]) (rest := []) E (P_left hw.1) (D_left hw.2.1) (k_ways l D cI cJ cN H.size ad av tf t1 t2 _ q1 wc hC x2) (gdV q_1323 q_1324 q_1325 q_151 q_1326) hdV_X11_ways ⟨rfl, rfl⟩ ⟨(Nat.le_of_ble_eq_true rfl), (Nat.le_of_ble_eq_true rfl)⟩ ⟨(by show _ ≤ 600000; omega), (by show _ ≤ 7302250; omega)⟩ xC_b (xC_at hXC hw.2.2.1 (A_l hw)) 11 rfl rfl he1 rfl hl.1 rfl (Nat.le_of_ble_eq_true rfl) dL_law_878) (fun r3 w3 Hr3 locsr3 p3 hw3 => ?_)
  refine lv_pop2_2 (pc := 881) E.1 E.2.1 dL_law_881 rfl ?_
  refine lv_aload_n (pc := 882) E.1 E.2.1 dL_law_882 rfl (lv_at hl 1 rfl) ?_
  refine lv_aload_n (pc := 883) E.1 E.2.1 dL_law_883 rfl (lv_at hl 3 rfl) ?_
  refine lv_iload_n (pc := 884) E.1 E.2.1 dL_law_884 rfl (lv_at hl 0 rfl) ?_
  refine lv_iconst (pc := 885) (v := 1) E.1 E.2.1 dL_law_885 (by decide +kernel) ?_
  refine lv_iadd (pc := 886) E.1 E.2.1 dL_law_886 ?_
  refine lv_topi (fun v4 ev4 => ?_)
  have hv4 : v4.toInt = i.toInt + 1 := by rw [ev4]; exact addE rfl (by decide +kernel) (by omega)
  refine va_sld (pc := 887) E.1 E.2.1 hXs hbl hbA hw3.2.2.1 (inbE (a := v4.toInt) rfl (by omega)) dL_law_887 ?_
  refine lv_topi (fun x5 ex5 => ?_)
  have qx5 : x2 = x5 := by rw [ex2, ex5, ev1, ev4]
  subst qx5
  refine lcR_l (pc := 888) (k1 := cells + 50) (n1 := slots + 10390) hw3 (by omega) (by omega) (rn_W (As := [.int x2]) (rest := []) E (P_right hw3.1) (D_right hw3.2.1) (m_ways l D cI cJ Hr3.size _ q2 wm hM x2) (gdV q_2088 q_2089 q_2090 q_162 q_2091) hdV_X12_ways ⟨rfl, rfl⟩ ⟨(Nat.le_of_ble_eq_true rfl), (Nat.le_of_ble_eq_true rfl)⟩ ⟨(by show _ ≤ 600000; omega), (by show _ ≤ 7302250; omega)⟩ xT_b xT_at 12 rfl rfl he2 rfl hl.1 rfl (Nat.le_of_ble_eq_true rfl) dL_law_888) (fun r6 w6 Hr6 locsr6 p6 hw6 => ?_)
  refine lv_pop2_2 (pc := 891) E.1 E.2.1 dL_law_891 rfl ?_
  refine lv_goto (pc := 892) (tgt := 1036) E.1 E.2.1 dL_law_892 (by decide) ?_
  exact kk _ _ _ _ _ _ p3 p6 hw6 hl
set_option maxHeartbeats 4000000 in
set_option maxRecDepth 100000 in
theorem lc_been {p : Program} {l : Launch} {e : Env} {s : State} {m : MethodId} {below : List Frame} {meth : Method} {c : Code} {H : Heap} {locs : List Loc} {cells slots : Nat} {ls : Array Slot} {D : va_G} {A : Nat → Prop} {cI cJ cN : ClassId} {ad av : Nat → Nat} {tf : Value} {t1 t2 : Nat} {b L q1 q2 : Nat} {xs : Nat → Int32} {n : NB} {wc wm : va_W} {Q : State → Prop} (E : EN p c code 4 s #[Value.ref b] RL m D cI cJ) (hXs : va_X b L xs s s.heap) (hbl : b < s.heap.size) (hbA : ¬ A b) (hXC : xC D cI cJ cN ad av tf t1 t2 A s) (hR : cells + 50 ≤ 600000 ∧ slots + 10390 ≤ 7302250) (hL : L ≤ 3072) {i : Int32} (hi : 0 ≤ i.toInt ∧ i.toInt + 6 ≤ (L : Int)) (hC : CW cI cJ cN ad n q1 wc) (hM : RW cI cJ n q2 wm) (hw : WD D A s.heap (wc ++ wm) H locs) (hl : lv_has ls 4 [(3, .int i), (2, .ref q2), (1, .ref q1), (0, .ref b)]) (kk : ∀ (n : NB) (wc wm : va_W) (H : Heap) (locs : List Loc) (ls : Array Slot), CW cI cJ cN ad n q1 wc → RW cI cJ n q2 wm → WD D A s.heap (wc ++ wm) H locs → lv_has ls 4 [(3, .int i), (2, .ref q2), (1, .ref q1), (0, .ref b)] → W p l e room_1 s m #[Value.ref b] below meth c H locs (cells + 50) (slots + 10390) Q (F0 m 1036 ls [])) : W p l e room_1 s m #[Value.ref b] below meth c H locs cells slots Q (F0 m 895 ls []) := by
  obtain ⟨fs1, he1⟩ := cw_head hC
  obtain ⟨fs2, he2⟩ := rw_head hM
  refine lv_aload_n (pc := 895) E.1 E.2.1 dL_law_895 rfl (lv_at hl 2 rfl) ?_
  refine lv_aload_n (pc := 896) E.1 E.2.1 dL_law_896 rfl (lv_at hl 3 rfl) ?_
  refine lv_iload_n (pc := 897) E.1 E.2.1 dL_law_897 rfl (lv_at hl 0 rfl) ?_
  refine lv_iconst (pc := 898) (v := 1) E.1 E.2.1 dL_law_898 (by decide +kernel) ?_
  refine lv_iadd (pc := 899) E.1 E.2.1 dL_law_899 ?_
  refine lv_topi (fun v1 ev1 => ?_)
  have hv1 : v1.toInt = i.toInt + 1 := by rw [ev1]; exact addE rfl (by decide +kernel) (by omega)
  refine va_sld (pc := 900) E.1 E.2.1 hXs hbl hbA hw.2.2.1 (inbE (a := v1.toInt) rfl (by omega)) dL_law_900 ?_
  refine lv_topi (fun x2 ex2 => ?_)
  refine lv_aload_n (pc := 901) E.1 E.2.1 dL_law_901 rfl (lv_at hl 3 rfl) ?_
  refine lv_iload_n (pc := 902) E.1 E.2.1 dL_law_902 rfl (lv_at hl 0 rfl) ?_
  refine lv_iconst (pc := 903) (v := 2) E.1 E.2.1 dL_law_903 (by decide +kernel) ?_
  refine lv_iadd (pc := 904) E.1 E.2.1 dL_law_904 ?_
  refine lv_topi (fun v3 ev3 => ?_)
  have hv3 : v3.toInt = i.toInt + 2 := by rw [ev3]; exact addE rfl (by decide +kernel) (by omega)
  refine va_sld (pc := 905) E.1 E.2.1 hXs hbl hbA hw.2.2.1 (inbE (a := v3.toInt) rfl (by omega)) dL_law_905 ?_
  refine lv_topi (fun x4 ex4 => ?_)
  refine lcL_i (pc := 906) (k1 := cells + 50) (n1 := slots + 10390) hw (by omega) (by omega) (rn_W (As := [.int x2, .int x4]) (rest := []) E (P_left hw.1) (D_left hw.2.1) (k_been l D cI cJ cN H.size ad av tf t1 t2 _ q1 wc hC x2 x4) (gdV q_1342 q_1343 q_1344 q_151 q_1345) hdV_X11_been ⟨rfl, rfl⟩ ⟨(Nat.le_of_ble_eq_true rfl), (Nat.le_of_ble_eq_true rfl)⟩ ⟨(by show _ ≤ 600000; omega), (by show _ ≤ 7302250; omega)⟩ xC_b (xC_at hXC hw.2.2.1 (A_l hw)) 11 rfl rfl he1 rfl hl.1 rfl (Nat.le_of_ble_eq_true rfl) dL_law_906) (fun r5 w5 Hr5 locsr5 p5 hw5 => ?_)
  refine lv_pop (pc := 909) E.1 E.2.1 dL_law_909 rfl ?_
  refine lv_aload_n (pc := 910) E.1 E.2.1 dL_law_910 rfl (lv_at hl 1 rfl) ?_
  refine lv_aload_n (pc := 911) E.1 E.2.1 dL_law_911 rfl (lv_at hl 3 rfl) ?_
  refine lv_iload_n (pc := 912) E.1 E.2.1 dL_law_912 rfl (lv_at hl 0 rfl) ?_
  refine lv_iconst (pc := 913) (v := 1) E.1 E.2.1 dL_law_913 (by decide +kernel) ?_
  refine lv_iadd (pc := 914) E.1 E.2.1 dL_law_914 ?_
  refine lv_topi (fun v6 ev6 => ?_)
  have hv6 : v6.toInt = i.toInt + 1 := by rw [ev6]; exact addE rfl (by decide +kernel) (by omega)
  refine va_sld (pc := 915) E.1 E.2.1 hXs hbl hbA hw5.2.2.1 (inbE (a := v6.toInt) rfl (by omega)) dL_law_915 ?_
  refine lv_topi (fun x7 ex7 => ?_)
  have qx7 : x2 = x7 := by rw [ex2, ex7, ev1, ev6]
  subst qx7
  refine lv_aload_n (pc := 916) E.1 E.2.1 dL_law_916 rfl (lv_at hl 3 rfl) ?_
  refine lv_iload_n (pc := 917) E.1 E.2.1 dL_law_917 rfl (lv_at hl 0 rfl) ?_
  refine lv_iconst (pc := 918) (v := 2) E.1 E.2.1 dL_law_918 (by decide +kernel) ?_
  refine lv_iadd (pc := 919) E.1 E.2.1 dL_law_919 ?_
  refine lv_topi (fun v8 ev8 => ?_)
  have hv8 : v8.toInt = i.toInt + 2 := by rw [ev8]; exact addE rfl (by decide +kernel) (by omega)
  refine va_sld (pc := 920) E.1 E.2.1 hXs hbl hbA hw5.2.2.1 (inbE (a := v8.toInt) rfl (by omega)) dL_law_920 ?_
  refine lv_topi (fun x9 ex9 => ?_)
  have qx9 : x4 = x9 := by rw [ex4, ex9, ev3, ev8]
  subst qx9
  refine lcR_i (pc := 921) (k1 := cells + 50) (n1 := slots + 10390) hw5 (by omega) (by omega) (rn_W (As := [.int x2, .int x4]) (rest := []) E (P_right hw5.1) (D_right hw5.2.1) (m_been l D cI cJ Hr5.size _ q2 wm hM x2 x4) (gdV q_2109 q_2110 q_2111 q_162 q_2112) hdV_X12_been ⟨rfl, rfl⟩ ⟨(Nat.le_of_ble_eq_true rfl), (Nat.le_of_ble_eq_true rfl)⟩ ⟨(by show _ ≤ 600000; omega), (by show _ ≤ 7302250; omega)⟩ xT_b xT_at 12 rfl rfl he2 rfl hl.1 rfl (Nat.le_of_ble_eq_true rfl) dL_law_921) (fun r10 w10 Hr10 locsr10 p10 hw10 => ?_)
  refine lv_pop (pc := 924) E.1 E.2.1 dL_law_924 rfl ?_
  refine lv_goto (pc := 925) (tgt := 1036) E.1 E.2.1 dL_law_925 (by decide) ?_
  exact kk _ _ _ _ _ _ p5 p10 hw10 hl
set_option maxHeartbeats 4000000 in
set_option maxRecDepth 100000 in
theorem lc_ask {p : Program} {l : Launch} {e : Env} {s : State} {m : MethodId} {below : List Frame} {meth : Method} {c : Code} {H : Heap} {locs : List Loc} {cells slots : Nat} {ls : Array Slot} {D : va_G} {A : Nat → Prop} {cI cJ cN : ClassId} {ad av : Nat → Nat} {tf : Value} {t1 t2 : Nat} {b L q1 q2 : Nat} {xs : Nat → Int32} {n : NB} {wc wm : va_W} {Q : State → Prop} (E : EN p c code 4 s #[Value.ref b] RL m D cI cJ) (hXs : va_X b L xs s s.heap) (hbl : b < s.heap.size) (hbA : ¬ A b) (hXC : xC D cI cJ cN ad av tf t1 t2 A s) (hR : cells + 50 ≤ 600000 ∧ slots + 10390 ≤ 7302250) (hL : L ≤ 3072) {i : Int32} (hi : 0 ≤ i.toInt ∧ i.toInt + 6 ≤ (L : Int)) (hC : CW cI cJ cN ad n q1 wc) (hM : RW cI cJ n q2 wm) (hw : WD D A s.heap (wc ++ wm) H locs) (hl : lv_has ls 4 [(3, .int i), (2, .ref q2), (1, .ref q1), (0, .ref b)]) (kk : ∀ (n : NB) (wc wm : va_W) (H : Heap) (locs : List Loc) (ls : Array Slot), CW cI cJ cN ad n q1 wc → RW cI cJ n q2 wm → WD D A s.heap (wc ++ wm) H locs → lv_has ls 4 [(3, .int i), (2, .ref q2), (1, .ref q1), (0, .ref b)] → W p l e room_1 s m #[Value.ref b] below meth c H locs (cells + 50) (slots + 10390) Q (F0 m 1036 ls [])) : W p l e room_1 s m #[Value.ref b] below meth c H locs cells slots Q (F0 m 928 ls []) := by
  obtain ⟨fs1, he1⟩ := cw_head hC
  obtain ⟨fs2, he2⟩ := rw_head hM
  refine lv_aload_n (pc := 928) E.1 E.2.1 dL_law_928 rfl (lv_at hl 2 rfl) ?_
  refine lv_aload_n (pc := 929) E.1 E.2.1 dL_law_929 rfl (lv_at hl 3 rfl) ?_
  refine lv_iload_n (pc := 930) E.1 E.2.1 dL_law_930 rfl (lv_at hl 0 rfl) ?_
  refine lv_iconst (pc := 931) (v := 1) E.1 E.2.1 dL_law_931 (by decide +kernel) ?_
  refine lv_iadd (pc := 932) E.1 E.2.1 dL_law_932 ?_
  refine lv_topi (fun v1 ev1 => ?_)
  have hv1 : v1.toInt = i.toInt + 1 := by rw [ev1]; exact addE rfl (by decide +kernel) (by omega)
  refine va_sld (pc := 933) E.1 E.2.1 hXs hbl hbA hw.2.2.1 (inbE (a := v1.toInt) rfl (by omega)) dL_law_933 ?_
  refine lv_topi (fun x2 ex2 => ?_)
  refine lv_aload_n (pc := 934) E.1 E.2.1 dL_law_934 rfl (lv_at hl 3 rfl) ?_
  refine lv_iload_n (pc := 935) E.1 E.2.1 dL_law_935 rfl (lv_at hl 0 rfl) ?_
  refine lv_iconst (pc := 936) (v := 2) E.1 E.2.1 dL_law_936 (by decide +kernel) ?_
  refine lv_iadd (pc := 937) E.1 E.2.1 dL_law_937 ?_
  refine lv_topi (fun v3 ev3 => ?_)
  have hv3 : v3.toInt = i.toInt + 2 := by rw [ev3]; exact addE rfl (by decide +kernel) (by omega)
  refine va_sld (pc := 938) E.1 E.2.1 hXs hbl hbA hw.2.2.1 (inbE (a := v3.toInt) rfl (by omega)) dL_law_938 ?_
  refine lv_topi (fun x4 ex4 => ?_)
  refine lcL_i (pc := 939) (k1 := cells + 50) (n1 := slots + 10390) hw (by omega) (by omega) (rn_W (As := [.int x2, .int x4]) (rest := []) E (P_left hw.1) (D_left hw.2.1) (k_ask l D cI cJ cN H.size ad av tf t1 t2 _ q1 wc hC x2 x4) (gdV q_1350 q_1351 q_1352 q_151 q_1353) hdV_X11_ask ⟨rfl, rfl⟩ ⟨(Nat.le_of_ble_eq_true rfl), (Nat.le_of_ble_eq_true rfl)⟩ ⟨(by show _ ≤ 600000; omega), (by show _ ≤ 7302250; omega)⟩ xC_b (xC_at hXC hw.2.2.1 (A_l hw)) 11 rfl rfl he1 rfl hl.1 rfl (Nat.le_of_ble_eq_true rfl) dL_law_939) (fun r5 w5 Hr5 locsr5 p5 hw5 => ?_)
  refine lv_pop (pc := 942) E.1 E.2.1 dL_law_942 rfl ?_
  refine lv_aload_n (pc := 943) E.1 E.2.1 dL_law_943 rfl (lv_at hl 1 rfl) ?_
  refine lv_aload_n (pc := 944) E.1 E.2.1 dL_law_944 rfl (lv_at hl 3 rfl) ?_
  refine lv_iload_n (pc := 945) E.1 E.2.1 dL_law_945 rfl (lv_at hl 0 rfl) ?_
  refine lv_iconst (pc := 946) (v := 1) E.1 E.2.1 dL_law_946 (by decide +kernel) ?_
  refine lv_iadd (pc := 947) E.1 E.2.1 dL_law_947 ?_
  refine lv_topi (fun v6 ev6 => ?_)
  have hv6 : v6.toInt = i.toInt + 1 := by rw [ev6]; exact addE rfl (by decide +kernel) (by omega)
  refine va_sld (pc := 948) E.1 E.2.1 hXs hbl hbA hw5.2.2.1 (inbE (a := v6.toInt) rfl (by omega)) dL_law_948 ?_
  refine lv_topi (fun x7 ex7 => ?_)
  have qx7 : x2 = x7 := by rw [ex2, ex7, ev1, ev6]
  subst qx7
  refine lv_aload_n (pc := 949) E.1 E.2.1 dL_law_949 rfl (lv_at hl 3 rfl) ?_
  refine lv_iload_n (pc := 950) E.1 E.2.1 dL_law_950 rfl (lv_at hl 0 rfl) ?_
  refine lv_iconst (pc := 951) (v := 2) E.1 E.2.1 dL_law_951 (by decide +kernel) ?_
  refine lv_iadd (pc := 952) E.1 E.2.1 dL_law_952 ?_
  refine lv_topi (fun v8 ev8 => ?_)
  have hv8 : v8.toInt = i.toInt + 2 := by rw [ev8]; exact addE rfl (by decide +kernel) (by omega)
  refine va_sld (pc := 953) E.1 E.2.1 hXs hbl hbA hw5.2.2.1 (inbE (a := v8.toInt) rfl (by omega)) dL_law_953 ?_
  refine lv_topi (fun x9 ex9 => ?_)
  have qx9 : x4 = x9 := by rw [ex4, ex9, ev3, ev8]
  subst qx9
  refine lcR_i (pc := 954) (k1 := cells + 50) (n1 := slots + 10390) hw5 (by omega) (by omega) (rn_W (As := [.int x2, .int x4]) (rest := []) E (P_right hw5.1) (D_right hw5.2.1) (m_ask l D cI cJ Hr5.size _ q2 wm hM x2 x4) (gdV q_2117 q_2118 q_2119 q_162 q_2120) hdV_X12_ask ⟨rfl, rfl⟩ ⟨(Nat.le_of_ble_eq_true rfl), (Nat.le_of_ble_eq_true rfl)⟩ ⟨(by show _ ≤ 600000; omega), (by show _ ≤ 7302250; omega)⟩ xT_b xT_at 12 rfl rfl he2 rfl hl.1 rfl (Nat.le_of_ble_eq_true rfl) dL_law_954) (fun r10 w10 Hr10 locsr10 p10 hw10 => ?_)
  refine lv_pop (pc := 957) E.1 E.2.1 dL_law_957 rfl ?_
  refine lv_goto (pc := 958) (tgt := 1036) E.1 E.2.1 dL_law_958 (by decide) ?_
  exact kk _ _ _ _ _ _ p5 p10 hw10 hl
set_option maxHeartbeats 4000000 in
set_option maxRecDepth 100000 in
theorem lc_undo {p : Program} {l : Launch} {e : Env} {s : State} {m : MethodId} {below : List Frame} {meth : Method} {c : Code} {H : Heap} {locs : List Loc} {cells slots : Nat} {ls : Array Slot} {D : va_G} {A : Nat → Prop} {cI cJ cN : ClassId} {ad av : Nat → Nat} {tf : Value} {t1 t2 : Nat} {b L q1 q2 : Nat} {xs : Nat → Int32} {n : NB} {wc wm : va_W} {Q : State → Prop} (E : EN p c code 4 s #[Value.ref b] RL m D cI cJ) (hXs : va_X b L xs s s.heap) (hbl : b < s.heap.size) (hbA : ¬ A b) (hXC : xC D cI cJ cN ad av tf t1 t2 A s) (hR : cells + 50 ≤ 600000 ∧ slots + 10390 ≤ 7302250) (hL : L ≤ 3072) {i : Int32} (hi : 0 ≤ i.toInt ∧ i.toInt + 6 ≤ (L : Int)) (hC : CW cI cJ cN ad n q1 wc) (hM : RW cI cJ n q2 wm) (hw : WD D A s.heap (wc ++ wm) H locs) (hl : lv_has ls 4 [(3, .int i), (2, .ref q2), (1, .ref q1), (0, .ref b)]) (kk : ∀ (n : NB) (wc wm : va_W) (H : Heap) (locs : List Loc) (ls : Array Slot), CW cI cJ cN ad n q1 wc → RW cI cJ n q2 wm → WD D A s.heap (wc ++ wm) H locs → lv_has ls 4 [(3, .int i), (2, .ref q2), (1, .ref q1), (0, .ref b)] → W p l e room_1 s m #[Value.ref b] below meth c H locs (cells + 50) (slots + 10390) Q (F0 m 1036 ls [])) : W p l e room_1 s m #[Value.ref b] below meth c H locs cells slots Q (F0 m 961 ls []) := by
  obtain ⟨fs1, he1⟩ := cw_head hC
  obtain ⟨fs2, he2⟩ := rw_head hM
  refine lv_aload_n (pc := 961) E.1 E.2.1 dL_law_961 rfl (lv_at hl 2 rfl) ?_
  refine lcL_i (pc := 962) (k1 := cells + 50) (n1 := slots + 10390) hw (by omega) (by omega) (rn_W (As := []) (rest := []) E (P_left hw.1) (D_left hw.2.1) (k_undo l D cI cJ cN H.size ad av tf t1 t2 _ q1 wc hC ) (gdV q_1362 q_1363 q_1364 q_151 q_1365) hdV_X11_undo ⟨rfl, rfl⟩ ⟨(Nat.le_of_ble_eq_true rfl), (Nat.le_of_ble_eq_true rfl)⟩ ⟨(by show _ ≤ 600000; omega), (by show _ ≤ 7302250; omega)⟩ xC_b (xC_at hXC hw.2.2.1 (A_l hw)) 11 rfl rfl he1 rfl hl.1 rfl (Nat.le_of_ble_eq_true rfl) dL_law_962) (fun r1 w1 Hr1 locsr1 p1 hw1 => ?_)
  refine lv_pop (pc := 965) E.1 E.2.1 dL_law_965 rfl ?_
  refine lv_aload_n (pc := 966) E.1 E.2.1 dL_law_966 rfl (lv_at hl 1 rfl) ?_
  refine lcR_i (pc := 967) (k1 := cells + 50) (n1 := slots + 10390) hw1 (by omega) (by omega) (rn_W (As := []) (rest := []) E (P_right hw1.1) (D_right hw1.2.1) (m_undo l D cI cJ Hr1.size _ q2 wm hM ) (gdV q_1610 q_1611 q_1612 q_162 q_1613) hdV_X12_undo ⟨rfl, rfl⟩ ⟨(Nat.le_of_ble_eq_true rfl), (Nat.le_of_ble_eq_true rfl)⟩ ⟨(by show _ ≤ 600000; omega), (by show _ ≤ 7302250; omega)⟩ xT_b xT_at 12 rfl rfl he2 rfl hl.1 rfl (Nat.le_of_ble_eq_true rfl) dL_law_967) (fun r2 w2 Hr2 locsr2 p2 hw2 => ?_)
  refine lv_pop (pc := 970) E.1 E.2.1 dL_law_970 rfl ?_
  refine lv_goto (pc := 971) (tgt := 1036) E.1 E.2.1 dL_law_971 (by decide) ?_
  exact kk _ _ _ _ _ _ p1 p2 hw2 hl
set_option maxHeartbeats 4000000 in
set_option maxRecDepth 100000 in
theorem lc_image {p : Program} {l : Launch} {e : Env} {s : State} {m : MethodId} {below : List Frame} {meth : Method} {c : Code} {H : Heap} {locs : List Loc} {cells slots : Nat} {ls : Array Slot} {D : va_G} {A : Nat → Prop} {cI cJ cN : ClassId} {ad av : Nat → Nat} {tf : Value} {t1 t2 : Nat} {b L q1 q2 : Nat} {xs : Nat → Int32} {n : NB} {wc wm : va_W} {Q : State → Prop} (E : EN p c code 4 s #[Value.ref b] RL m D cI cJ) (hXs : va_X b L xs s s.heap) (hbl : b < s.heap.size) (hbA : ¬ A b) (hXC : xC D cI cJ cN ad av tf t1 t2 A s) (hR : cells + 50 ≤ 600000 ∧ slots + 10390 ≤ 7302250) (hL : L ≤ 3072) {i : Int32} (hi : 0 ≤ i.toInt ∧ i.toInt + 6 ≤ (L : Int)) (hC : CW cI cJ cN ad n q1 wc) (hM : RW cI cJ n q2 wm) (hw : WD D A s.heap (wc ++ wm) H locs) (hl : lv_has ls 4 [(3, .int i), (2, .ref q2), (1, .ref q1), (0, .ref b)]) (kk : ∀ (n : NB) (wc wm : va_W) (H : Heap) (locs : List Loc) (ls : Array Slot), CW cI cJ cN ad n q1 wc → RW cI cJ n q2 wm → WD D A s.heap (wc ++ wm) H locs → lv_has ls 4 [(3, .int i), (2, .ref q2), (1, .ref q1), (0, .ref b)] → W p l e room_1 s m #[Value.ref b] below meth c H locs (cells + 50) (slots + 10390) Q (F0 m 1036 ls [])) : W p l e room_1 s m #[Value.ref b] below meth c H locs cells slots Q (F0 m 974 ls []) := by
  obtain ⟨fs1, he1⟩ := cw_head hC
  obtain ⟨fs2, he2⟩ := rw_head hM
  refine lv_aload_n (pc := 974) E.1 E.2.1 dL_law_974 rfl (lv_at hl 2 rfl) ?_
  refine lv_aload_n (pc := 975) E.1 E.2.1 dL_law_975 rfl (lv_at hl 3 rfl) ?_
  refine lv_iload_n (pc := 976) E.1 E.2.1 dL_law_976 rfl (lv_at hl 0 rfl) ?_
  refine lv_iconst (pc := 977) (v := 1) E.1 E.2.1 dL_law_977 (by decide +kernel) ?_
  refine lv_iadd (pc := 978) E.1 E.2.1 dL_law_978 ?_
  refine lv_topi (fun v1 ev1 => ?_)
  have hv1 : v1.toInt = i.toInt + 1 := by rw [ev1]; exact addE rfl (by decide +kernel) (by omega)
  refine va_sld (pc := 979) E.1 E.2.1 hXs hbl hbA hw.2.2.1 (inbE (a := v1.toInt) rfl (by omega)) dL_law_979 ?_
  refine lv_topi (fun x2 ex2 => ?_)
  refine lv_if_eq (pc := 980) (tgt := 987) E.1 E.2.1 dL_law_980 (by decide) (fun c3 => ?_) (fun c3 => ?_)
  · skip
    refine lv_iconst (pc := 987) (v := 0) E.1 E.2.1 dL_law_987 (by decide +kernel) ?_
    refine lcL_i (pc := 988) (k1 := cells + 50) (n1 := slots + 10390) hw (by omega) (by omega) (rn_W (As := [.int 0]) (rest := []) E (P_left hw.1) (D_left hw.2.1) (k_image l D cI cJ cN H.size ad av tf t1 t2 _ q1 wc hC 0 (by decide +kernel)) (gdV q_1366 q_1367 q_1368 q_151 q_1369) hdV_X11_image ⟨rfl, rfl⟩ ⟨(Nat.le_of_ble_eq_true rfl), (Nat.le_of_ble_eq_true rfl)⟩ ⟨(by show _ ≤ 600000; omega), (by show _ ≤ 7302250; omega)⟩ xC_b (xC_at hXC hw.2.2.1 (A_l hw)) 11 rfl rfl he1 rfl hl.1 rfl (Nat.le_of_ble_eq_true rfl) dL_law_988) (fun r4 w4 Hr4 locsr4 p4 hw4 => ?_)
    refine lv_pop (pc := 991) E.1 E.2.1 dL_law_991 rfl ?_
    refine lv_aload_n (pc := 992) E.1 E.2.1 dL_law_992 rfl (lv_at hl 1 rfl) ?_
    refine lv_aload_n (pc := 993) E.1 E.2.1 dL_law_993 rfl (lv_at hl 3 rfl) ?_
    refine lv_iload_n (pc := 994) E.1 E.2.1 dL_law_994 rfl (lv_at hl 0 rfl) ?_
    refine lv_iconst (pc := 995) (v := 1) E.1 E.2.1 dL_law_995 (by decide +kernel) ?_
    refine lv_iadd (pc := 996) E.1 E.2.1 dL_law_996 ?_
    refine lv_topi (fun v5 ev5 => ?_)
    have hv5 : v5.toInt = i.toInt + 1 := by rw [ev5]; exact addE rfl (by decide +kernel) (by omega)
    refine va_sld (pc := 997) E.1 E.2.1 hXs hbl hbA hw4.2.2.1 (inbE (a := v5.toInt) rfl (by omega)) dL_law_997 ?_
    refine lv_topi (fun x6 ex6 => ?_)
    have qx6 : x2 = x6 := by rw [ex2, ex6, ev1, ev5]
    subst qx6
    refine lv_if_eq (pc := 998) (tgt := 1005) E.1 E.2.1 dL_law_998 (by decide) (fun c7 => ?_) (fun c7 => absurd c3 c7)
    refine lv_iconst (pc := 1005) (v := 0) E.1 E.2.1 dL_law_1005 (by decide +kernel) ?_
    refine lcR_i (pc := 1006) (k1 := cells + 50) (n1 := slots + 10390) hw4 (by omega) (by omega) (rn_W (As := [.int 0]) (rest := []) E (P_right hw4.1) (D_right hw4.2.1) (m_image l D cI cJ Hr4.size _ q2 wm hM 0 (by decide +kernel)) (gdV q_2121 q_2122 q_2123 q_162 q_2124) hdV_X12_image ⟨rfl, rfl⟩ ⟨(Nat.le_of_ble_eq_true rfl), (Nat.le_of_ble_eq_true rfl)⟩ ⟨(by show _ ≤ 600000; omega), (by show _ ≤ 7302250; omega)⟩ xT_b xT_at 12 rfl rfl he2 rfl hl.1 rfl (Nat.le_of_ble_eq_true rfl) dL_law_1006) (fun r8 w8 Hr8 locsr8 p8 hw8 => ?_)
    refine lv_pop (pc := 1009) E.1 E.2.1 dL_law_1009 rfl ?_
    refine lv_goto (pc := 1010) (tgt := 1036) E.1 E.2.1 dL_law_1010 (by decide) ?_
    exact kk _ _ _ _ _ _ p4 p8 hw8 hl
  · skip
    refine lv_iconst (pc := 983) (v := 1) E.1 E.2.1 dL_law_983 (by decide +kernel) ?_
    refine lv_goto (pc := 984) (tgt := 988) E.1 E.2.1 dL_law_984 (by decide) ?_
    refine lcL_i (pc := 988) (k1 := cells + 50) (n1 := slots + 10390) hw (by omega) (by omega) (rn_W (As := [.int 1]) (rest := []) E (P_left hw.1) (D_left hw.2.1) (k_image l D cI cJ cN H.size ad av tf t1 t2 _ q1 wc hC 1 (by decide +kernel)) (gdV q_1366 q_1367 q_1368 q_151 q_1369) hdV_X11_image ⟨rfl, rfl⟩ ⟨(Nat.le_of_ble_eq_true rfl), (Nat.le_of_ble_eq_true rfl)⟩ ⟨(by show _ ≤ 600000; omega), (by show _ ≤ 7302250; omega)⟩ xC_b (xC_at hXC hw.2.2.1 (A_l hw)) 11 rfl rfl he1 rfl hl.1 rfl (Nat.le_of_ble_eq_true rfl) dL_law_988) (fun r9 w9 Hr9 locsr9 p9 hw9 => ?_)
    refine lv_pop (pc := 991) E.1 E.2.1 dL_law_991 rfl ?_
    refine lv_aload_n (pc := 992) E.1 E.2.1 dL_law_992 rfl (lv_at hl 1 rfl) ?_
    refine lv_aload_n (pc := 993) E.1 E.2.1 dL_law_993 rfl (lv_at hl 3 rfl) ?_
    refine lv_iload_n (pc := 994) E.1 E.2.1 dL_law_994 rfl (lv_at hl 0 rfl) ?_
    refine lv_iconst (pc := 995) (v := 1) E.1 E.2.1 dL_law_995 (by decide +kernel) ?_
    refine lv_iadd (pc := 996) E.1 E.2.1 dL_law_996 ?_
    refine lv_topi (fun v10 ev10 => ?_)
    have hv10 : v10.toInt = i.toInt + 1 := by rw [ev10]; exact addE rfl (by decide +kernel) (by omega)
    refine va_sld (pc := 997) E.1 E.2.1 hXs hbl hbA hw9.2.2.1 (inbE (a := v10.toInt) rfl (by omega)) dL_law_997 ?_
    refine lv_topi (fun x11 ex11 => ?_)
    have qx11 : x2 = x11 := by rw [ex2, ex11, ev1, ev10]
    subst qx11
    refine lv_if_eq (pc := 998) (tgt := 1005) E.1 E.2.1 dL_law_998 (by decide) (fun c12 => absurd c12 c3) (fun c12 => ?_)
    refine lv_iconst (pc := 1001) (v := 1) E.1 E.2.1 dL_law_1001 (by decide +kernel) ?_
    refine lv_goto (pc := 1002) (tgt := 1006) E.1 E.2.1 dL_law_1002 (by decide) ?_
    refine lcR_i (pc := 1006) (k1 := cells + 50) (n1 := slots + 10390) hw9 (by omega) (by omega) (rn_W (As := [.int 1]) (rest := []) E (P_right hw9.1) (D_right hw9.2.1) (m_image l D cI cJ Hr9.size _ q2 wm hM 1 (by decide +kernel)) (gdV q_2121 q_2122 q_2123 q_162 q_2124) hdV_X12_image ⟨rfl, rfl⟩ ⟨(Nat.le_of_ble_eq_true rfl), (Nat.le_of_ble_eq_true rfl)⟩ ⟨(by show _ ≤ 600000; omega), (by show _ ≤ 7302250; omega)⟩ xT_b xT_at 12 rfl rfl he2 rfl hl.1 rfl (Nat.le_of_ble_eq_true rfl) dL_law_1006) (fun r13 w13 Hr13 locsr13 p13 hw13 => ?_)
    refine lv_pop (pc := 1009) E.1 E.2.1 dL_law_1009 rfl ?_
    refine lv_goto (pc := 1010) (tgt := 1036) E.1 E.2.1 dL_law_1010 (by decide) ?_
    exact kk _ _ _ _ _ _ p9 p13 hw13 hl
set_option maxHeartbeats 4000000 in
set_option maxRecDepth 100000 in
theorem lc_look {p : Program} {l : Launch} {e : Env} {s : State} {m : MethodId} {below : List Frame} {meth : Method} {c : Code} {H : Heap} {locs : List Loc} {cells slots : Nat} {ls : Array Slot} {D : va_G} {A : Nat → Prop} {cI cJ cN : ClassId} {ad av : Nat → Nat} {tf : Value} {t1 t2 : Nat} {b L q1 q2 : Nat} {xs : Nat → Int32} {n : NB} {wc wm : va_W} {Q : State → Prop} (E : EN p c code 4 s #[Value.ref b] RL m D cI cJ) (hXs : va_X b L xs s s.heap) (hbl : b < s.heap.size) (hbA : ¬ A b) (hXC : xC D cI cJ cN ad av tf t1 t2 A s) (hR : cells + 50 ≤ 600000 ∧ slots + 10390 ≤ 7302250) (hL : L ≤ 3072) {i : Int32} (hi : 0 ≤ i.toInt ∧ i.toInt + 6 ≤ (L : Int)) (hC : CW cI cJ cN ad n q1 wc) (hM : RW cI cJ n q2 wm) (hw : WD D A s.heap (wc ++ wm) H locs) (hl : lv_has ls 4 [(3, .int i), (2, .ref q2), (1, .ref q1), (0, .ref b)]) (kk : ∀ (n : NB) (wc wm : va_W) (H : Heap) (locs : List Loc) (ls : Array Slot), CW cI cJ cN ad n q1 wc → RW cI cJ n q2 wm → WD D A s.heap (wc ++ wm) H locs → lv_has ls 4 [(3, .int i), (2, .ref q2), (1, .ref q1), (0, .ref b)] → W p l e room_1 s m #[Value.ref b] below meth c H locs (cells + 50) (slots + 10390) Q (F0 m 1036 ls [])) : W p l e room_1 s m #[Value.ref b] below meth c H locs cells slots Q (F0 m 1013 ls []) := by
  obtain ⟨fs1, he1⟩ := cw_head hC
  obtain ⟨fs2, he2⟩ := rw_head hM
  refine lv_aload_n (pc := 1013) E.1 E.2.1 dL_law_1013 rfl (lv_at hl 2 rfl) ?_
  refine lv_aload_n (pc := 1014) E.1 E.2.1 dL_law_1014 rfl (lv_at hl 3 rfl) ?_
  refine lv_iload_n (pc := 1015) E.1 E.2.1 dL_law_1015 rfl (lv_at hl 0 rfl) ?_
  refine lv_iconst (pc := 1016) (v := 1) E.1 E.2.1 dL_law_1016 (by decide +kernel) ?_
  refine lv_iadd (pc := 1017) E.1 E.2.1 dL_law_1017 ?_
  refine lv_topi (fun v1 ev1 => ?_)
  have hv1 : v1.toInt = i.toInt + 1 := by rw [ev1]; exact addE rfl (by decide +kernel) (by omega)
  refine va_sld (pc := 1018) E.1 E.2.1 hXs hbl hbA hw.2.2.1 (inbE (a := v1.toInt) rfl (by omega)) dL_law_1018 ?_
  refine lv_topi (fun x2 ex2 => ?_)
  refine lcL_i (pc := 1019) (k1 := cells + 50) (n1 := slots + 10390) hw (by omega) (by omega) (rn_W (As := [.int x2]) (rest := []) E (P_left hw.1) (D_left hw.2.1) (k_look l D cI cJ cN H.size ad av tf t1 t2 _ q1 wc hC x2) (gdV q_1388 q_1389 q_1390 q_151 q_1391) hdV_X11_look ⟨rfl, rfl⟩ ⟨(Nat.le_of_ble_eq_true rfl), (Nat.le_of_ble_eq_true rfl)⟩ ⟨(by show _ ≤ 600000; omega), (by show _ ≤ 7302250; omega)⟩ xC_b (xC_at hXC hw.2.2.1 (A_l hw)) 11 rfl rfl he1 rfl hl.1 rfl (Nat.le_of_ble_eq_true rfl) dL_law_1019) (fun r3 w3 Hr3 locsr3 p3 hw3 => ?_)
  refine lv_pop (pc := 1022) E.1 E.2.1 dL_law_1022 rfl ?_
  refine lv_aload_n (pc := 1023) E.1 E.2.1 dL_law_1023 rfl (lv_at hl 1 rfl) ?_
  refine lv_aload_n (pc := 1024) E.1 E.2.1 dL_law_1024 rfl (lv_at hl 3 rfl) ?_
  refine lv_iload_n (pc := 1025) E.1 E.2.1 dL_law_1025 rfl (lv_at hl 0 rfl) ?_
  refine lv_iconst (pc := 1026) (v := 1) E.1 E.2.1 dL_law_1026 (by decide +kernel) ?_
  refine lv_iadd (pc := 1027) E.1 E.2.1 dL_law_1027 ?_
  refine lv_topi (fun v4 ev4 => ?_)
  have hv4 : v4.toInt = i.toInt + 1 := by rw [ev4]; exact addE rfl (by decide +kernel) (by omega)
  refine va_sld (pc := 1028) E.1 E.2.1 hXs hbl hbA hw3.2.2.1 (inbE (a := v4.toInt) rfl (by omega)) dL_law_1028 ?_
  refine lv_topi (fun x5 ex5 => ?_)
  have qx5 : x2 = x5 := by rw [ex2, ex5, ev1, ev4]
  subst qx5
  refine lcR_i (pc := 1029) (k1 := cells + 50) (n1 := slots + 10390) hw3 (by omega) (by omega) (rn_W (As := [.int x2]) (rest := []) E (P_right hw3.1) (D_right hw3.2.1) (m_look l D cI cJ Hr3.size _ q2 wm hM x2) (gdV q_2141 q_2142 q_2143 q_162 q_2144) hdV_X12_look ⟨rfl, rfl⟩ ⟨(Nat.le_of_ble_eq_true rfl), (Nat.le_of_ble_eq_true rfl)⟩ ⟨(by show _ ≤ 600000; omega), (by show _ ≤ 7302250; omega)⟩ xT_b xT_at 12 rfl rfl he2 rfl hl.1 rfl (Nat.le_of_ble_eq_true rfl) dL_law_1029) (fun r6 w6 Hr6 locsr6 p6 hw6 => ?_)
  refine lv_pop (pc := 1032) E.1 E.2.1 dL_law_1032 rfl ?_
  refine lv_goto (pc := 1033) (tgt := 1036) E.1 E.2.1 dL_law_1033 (by decide) ?_
  exact kk _ _ _ _ _ _ p3 p6 hw6 hl
