set_option maxHeartbeats 4000000 in
set_option maxRecDepth 100000 in
theorem lc_state {p : Program} {l : Launch} {e : Env} {s : State} {m : MethodId} {below : List Frame} {meth : Method} {c : Code} {H : Heap} {locs : List Loc} {cells slots : Nat} {ls : Array Slot} {D : va_G} {A : Nat → Prop} {cI cJ cN : ClassId} {ad av : Nat → Nat} {tf : Value} {t1 t2 : Nat} {b L q1 q2 : Nat} {xs : Nat → Int32} {n : NB} {wc wm : va_W} {Q : State → Prop} (E : EN p c code 4 s #[Value.ref b] RL m D cI cJ) (hXs : va_X b L xs s s.heap) (hbl : b < s.heap.size) (hbA : ¬ A b) (hXC : xC D cI cJ cN ad av tf t1 t2 A s) (hR : cells + 50 ≤ 600000 ∧ slots + 10390 ≤ 7302250) (hL : L ≤ 3072) {i : Int32} (hi : 0 ≤ i.toInt ∧ i.toInt + 6 ≤ (L : Int)) (hC : CW cI cJ cN ad n q1 wc) (hM : RW cI cJ n q2 wm) (hw : WD D A s.heap (wc ++ wm) H locs) (hl : lv_has ls 4 [(3, .int i), (2, .ref q2), (1, .ref q1), (0, .ref b)]) (kk : ∀ (n : NB) (wc wm : va_W) (H : Heap) (locs : List Loc) (ls : Array Slot), CW cI cJ cN ad n q1 wc → RW cI cJ n q2 wm → WD D A s.heap (wc ++ wm) H locs → lv_has ls 4 [(3, .int i), (2, .ref q2), (1, .ref q1), (0, .ref b)] → W p l e room_1 s m #[Value.ref b] below meth c H locs (cells + 50) (slots + 10390) Q (F0 m 1036 ls [])) : W p l e room_1 s m #[Value.ref b] below meth c H locs cells slots Q (F0 m 160 ls []) := by
  obtain ⟨fs1, he1⟩ := cw_head hC
  obtain ⟨fs2, he2⟩ := rw_head hM
  refine lv_aload_n (pc := 160) E.1 E.2.1 dL_law_160 rfl (lv_at hl 2 rfl) ?_
  refine lv_aload_n (pc := 161) E.1 E.2.1 dL_law_161 rfl (lv_at hl 3 rfl) ?_
  refine lv_iload_n (pc := 162) E.1 E.2.1 dL_law_162 rfl (lv_at hl 0 rfl) ?_
  refine lv_iconst (pc := 163) (v := 1) E.1 E.2.1 dL_law_163 (by decide +kernel) ?_
  refine lv_iadd (pc := 164) E.1 E.2.1 dL_law_164 ?_
  refine lv_topi (fun v1 ev1 => ?_)
  have hv1 : v1.toInt = i.toInt + 1 := by rw [ev1]; exact addE rfl (by decide +kernel) (by omega)
  refine va_sld (pc := 165) E.1 E.2.1 hXs hbl hbA hw.2.2.1 (inbE (a := v1.toInt) rfl (by omega)) dL_law_165 ?_
  refine lv_topi (fun x2 ex2 => ?_)
  refine lcL_i (pc := 166) (k1 := cells + 50) (n1 := slots + 10390) hw (by omega) (by omega) (rn_W (As := [.int x2]) (rest := []) E (P_left hw.1) (D_left hw.2.1) (k_state l D cI cJ cN H.size ad av tf t1 t2 _ q1 wc hC x2) (gdV q_646 q_647 q_648 q_151 q_649) hdV_X11_state ⟨rfl, rfl⟩ ⟨(Nat.le_of_ble_eq_true rfl), (Nat.le_of_ble_eq_true rfl)⟩ ⟨(by show _ ≤ 600000; omega), (by show _ ≤ 7302250; omega)⟩ xC_b (xC_at hXC hw.2.2.1 (A_l hw)) 11 rfl rfl he1 rfl hl.1 rfl (Nat.le_of_ble_eq_true rfl) dL_law_166) (fun r3 w3 Hr3 locsr3 p3 hw3 => ?_)
  refine lv_pop (pc := 169) E.1 E.2.1 dL_law_169 rfl ?_
  refine lv_aload_n (pc := 170) E.1 E.2.1 dL_law_170 rfl (lv_at hl 1 rfl) ?_
  refine lv_aload_n (pc := 171) E.1 E.2.1 dL_law_171 rfl (lv_at hl 3 rfl) ?_
  refine lv_iload_n (pc := 172) E.1 E.2.1 dL_law_172 rfl (lv_at hl 0 rfl) ?_
  refine lv_iconst (pc := 173) (v := 1) E.1 E.2.1 dL_law_173 (by decide +kernel) ?_
  refine lv_iadd (pc := 174) E.1 E.2.1 dL_law_174 ?_
  refine lv_topi (fun v4 ev4 => ?_)
  have hv4 : v4.toInt = i.toInt + 1 := by rw [ev4]; exact addE rfl (by decide +kernel) (by omega)
  refine va_sld (pc := 175) E.1 E.2.1 hXs hbl hbA hw3.2.2.1 (inbE (a := v4.toInt) rfl (by omega)) dL_law_175 ?_
  refine lv_topi (fun x5 ex5 => ?_)
  have qx5 : x2 = x5 := by rw [ex2, ex5, ev1, ev4]
  subst qx5
  refine lcR_i (pc := 176) (k1 := cells + 50) (n1 := slots + 10390) hw3 (by omega) (by omega) (rn_W (As := [.int x2]) (rest := []) E (P_right hw3.1) (D_right hw3.2.1) (m_state l D cI cJ Hr3.size _ q2 wm hM x2) (gdV q_1614 q_1615 q_1616 q_162 q_1617) hdV_X12_state ⟨rfl, rfl⟩ ⟨(Nat.le_of_ble_eq_true rfl), (Nat.le_of_ble_eq_true rfl)⟩ ⟨(by show _ ≤ 600000; omega), (by show _ ≤ 7302250; omega)⟩ xT_b xT_at 12 rfl rfl he2 rfl hl.1 rfl (Nat.le_of_ble_eq_true rfl) dL_law_176) (fun r6 w6 Hr6 locsr6 p6 hw6 => ?_)
  refine lv_pop (pc := 179) E.1 E.2.1 dL_law_179 rfl ?_
  refine lv_goto (pc := 180) (tgt := 1036) E.1 E.2.1 dL_law_180 (by decide) ?_
  exact kk _ _ _ _ _ _ p3 p6 hw6 hl
set_option maxHeartbeats 4000000 in
set_option maxRecDepth 100000 in
theorem lc_house {p : Program} {l : Launch} {e : Env} {s : State} {m : MethodId} {below : List Frame} {meth : Method} {c : Code} {H : Heap} {locs : List Loc} {cells slots : Nat} {ls : Array Slot} {D : va_G} {A : Nat → Prop} {cI cJ cN : ClassId} {ad av : Nat → Nat} {tf : Value} {t1 t2 : Nat} {b L q1 q2 : Nat} {xs : Nat → Int32} {n : NB} {wc wm : va_W} {Q : State → Prop} (E : EN p c code 4 s #[Value.ref b] RL m D cI cJ) (hXs : va_X b L xs s s.heap) (hbl : b < s.heap.size) (hbA : ¬ A b) (hXC : xC D cI cJ cN ad av tf t1 t2 A s) (hR : cells + 50 ≤ 600000 ∧ slots + 10390 ≤ 7302250) (hL : L ≤ 3072) {i : Int32} (hi : 0 ≤ i.toInt ∧ i.toInt + 6 ≤ (L : Int)) (hC : CW cI cJ cN ad n q1 wc) (hM : RW cI cJ n q2 wm) (hw : WD D A s.heap (wc ++ wm) H locs) (hl : lv_has ls 4 [(3, .int i), (2, .ref q2), (1, .ref q1), (0, .ref b)]) (kk : ∀ (n : NB) (wc wm : va_W) (H : Heap) (locs : List Loc) (ls : Array Slot), CW cI cJ cN ad n q1 wc → RW cI cJ n q2 wm → WD D A s.heap (wc ++ wm) H locs → lv_has ls 4 [(3, .int i), (2, .ref q2), (1, .ref q1), (0, .ref b)] → W p l e room_1 s m #[Value.ref b] below meth c H locs (cells + 50) (slots + 10390) Q (F0 m 1036 ls [])) : W p l e room_1 s m #[Value.ref b] below meth c H locs cells slots Q (F0 m 183 ls []) := by
  obtain ⟨fs1, he1⟩ := cw_head hC
  obtain ⟨fs2, he2⟩ := rw_head hM
  refine lv_aload_n (pc := 183) E.1 E.2.1 dL_law_183 rfl (lv_at hl 2 rfl) ?_
  refine lv_aload_n (pc := 184) E.1 E.2.1 dL_law_184 rfl (lv_at hl 3 rfl) ?_
  refine lv_iload_n (pc := 185) E.1 E.2.1 dL_law_185 rfl (lv_at hl 0 rfl) ?_
  refine lv_iconst (pc := 186) (v := 1) E.1 E.2.1 dL_law_186 (by decide +kernel) ?_
  refine lv_iadd (pc := 187) E.1 E.2.1 dL_law_187 ?_
  refine lv_topi (fun v1 ev1 => ?_)
  have hv1 : v1.toInt = i.toInt + 1 := by rw [ev1]; exact addE rfl (by decide +kernel) (by omega)
  refine va_sld (pc := 188) E.1 E.2.1 hXs hbl hbA hw.2.2.1 (inbE (a := v1.toInt) rfl (by omega)) dL_law_188 ?_
  refine lv_topi (fun x2 ex2 => ?_)
  refine lv_aload_n (pc := 189) E.1 E.2.1 dL_law_189 rfl (lv_at hl 3 rfl) ?_
  refine lv_iload_n (pc := 190) E.1 E.2.1 dL_law_190 rfl (lv_at hl 0 rfl) ?_
  refine lv_iconst (pc := 191) (v := 2) E.1 E.2.1 dL_law_191 (by decide +kernel) ?_
  refine lv_iadd (pc := 192) E.1 E.2.1 dL_law_192 ?_
  refine lv_topi (fun v3 ev3 => ?_)
  have hv3 : v3.toInt = i.toInt + 2 := by rw [ev3]; exact addE rfl (by decide +kernel) (by omega)
  refine va_sld (pc := 193) E.1 E.2.1 hXs hbl hbA hw.2.2.1 (inbE (a := v3.toInt) rfl (by omega)) dL_law_193 ?_
  refine lv_topi (fun x4 ex4 => ?_)
  refine lv_aload_n (pc := 194) E.1 E.2.1 dL_law_194 rfl (lv_at hl 3 rfl) ?_
  refine lv_iload_n (pc := 195) E.1 E.2.1 dL_law_195 rfl (lv_at hl 0 rfl) ?_
  refine lv_iconst (pc := 196) (v := 3) E.1 E.2.1 dL_law_196 (by decide +kernel) ?_
  refine lv_iadd (pc := 197) E.1 E.2.1 dL_law_197 ?_
  refine lv_topi (fun v5 ev5 => ?_)
  have hv5 : v5.toInt = i.toInt + 3 := by rw [ev5]; exact addE rfl (by decide +kernel) (by omega)
  refine va_sld (pc := 198) E.1 E.2.1 hXs hbl hbA hw.2.2.1 (inbE (a := v5.toInt) rfl (by omega)) dL_law_198 ?_
  refine lv_topi (fun x6 ex6 => ?_)
  refine lcL_i (pc := 199) (k1 := cells + 50) (n1 := slots + 10390) hw (by omega) (by omega) (rn_W (As := [.int x2, .int x4, .int x6]) (rest := []) E (P_left hw.1) (D_left hw.2.1) (k_house l D cI cJ cN H.size ad av tf t1 t2 _ q1 wc hC x2 x4 x6) (gdV q_658 q_659 q_660 q_151 q_661) hdV_X11_house ⟨rfl, rfl⟩ ⟨(Nat.le_of_ble_eq_true rfl), (Nat.le_of_ble_eq_true rfl)⟩ ⟨(by show _ ≤ 600000; omega), (by show _ ≤ 7302250; omega)⟩ xC_b (xC_at hXC hw.2.2.1 (A_l hw)) 11 rfl rfl he1 rfl hl.1 rfl (Nat.le_of_ble_eq_true rfl) dL_law_199) (fun r7 w7 Hr7 locsr7 p7 hw7 => ?_)
  refine lv_pop (pc := 202) E.1 E.2.1 dL_law_202 rfl ?_
  refine lv_aload_n (pc := 203) E.1 E.2.1 dL_law_203 rfl (lv_at hl 1 rfl) ?_
  refine lv_aload_n (pc := 204) E.1 E.2.1 dL_law_204 rfl (lv_at hl 3 rfl) ?_
  refine lv_iload_n (pc := 205) E.1 E.2.1 dL_law_205 rfl (lv_at hl 0 rfl) ?_
  refine lv_iconst (pc := 206) (v := 1) E.1 E.2.1 dL_law_206 (by decide +kernel) ?_
  refine lv_iadd (pc := 207) E.1 E.2.1 dL_law_207 ?_
  refine lv_topi (fun v8 ev8 => ?_)
  have hv8 : v8.toInt = i.toInt + 1 := by rw [ev8]; exact addE rfl (by decide +kernel) (by omega)
  refine va_sld (pc := 208) E.1 E.2.1 hXs hbl hbA hw7.2.2.1 (inbE (a := v8.toInt) rfl (by omega)) dL_law_208 ?_
  refine lv_topi (fun x9 ex9 => ?_)
  have qx9 : x2 = x9 := by rw [ex2, ex9, ev1, ev8]
  subst qx9
  refine lv_aload_n (pc := 209) E.1 E.2.1 dL_law_209 rfl (lv_at hl 3 rfl) ?_
  refine lv_iload_n (pc := 210) E.1 E.2.1 dL_law_210 rfl (lv_at hl 0 rfl) ?_
  refine lv_iconst (pc := 211) (v := 2) E.1 E.2.1 dL_law_211 (by decide +kernel) ?_
  refine lv_iadd (pc := 212) E.1 E.2.1 dL_law_212 ?_
  refine lv_topi (fun v10 ev10 => ?_)
  have hv10 : v10.toInt = i.toInt + 2 := by rw [ev10]; exact addE rfl (by decide +kernel) (by omega)
  refine va_sld (pc := 213) E.1 E.2.1 hXs hbl hbA hw7.2.2.1 (inbE (a := v10.toInt) rfl (by omega)) dL_law_213 ?_
  refine lv_topi (fun x11 ex11 => ?_)
  have qx11 : x4 = x11 := by rw [ex4, ex11, ev3, ev10]
  subst qx11
  refine lv_aload_n (pc := 214) E.1 E.2.1 dL_law_214 rfl (lv_at hl 3 rfl) ?_
  refine lv_iload_n (pc := 215) E.1 E.2.1 dL_law_215 rfl (lv_at hl 0 rfl) ?_
  refine lv_iconst (pc := 216) (v := 3) E.1 E.2.1 dL_law_216 (by decide +kernel) ?_
  refine lv_iadd (pc := 217) E.1 E.2.1 dL_law_217 ?_
  refine lv_topi (fun v12 ev12 => ?_)
  have hv12 : v12.toInt = i.toInt + 3 := by rw [ev12]; exact addE rfl (by decide +kernel) (by omega)
  refine va_sld (pc := 218) E.1 E.2.1 hXs hbl hbA hw7.2.2.1 (inbE (a := v12.toInt) rfl (by omega)) dL_law_218 ?_
  refine lv_topi (fun x13 ex13 => ?_)
  have qx13 : x6 = x13 := by rw [ex6, ex13, ev5, ev12]
  subst qx13
  refine lcR_i (pc := 219) (k1 := cells + 50) (n1 := slots + 10390) hw7 (by omega) (by omega) (rn_W (As := [.int x2, .int x4, .int x6]) (rest := []) E (P_right hw7.1) (D_right hw7.2.1) (m_house l D cI cJ Hr7.size _ q2 wm hM x2 x4 x6) (gdV q_1618 q_1619 q_1620 q_162 q_1621) hdV_X12_house ⟨rfl, rfl⟩ ⟨(Nat.le_of_ble_eq_true rfl), (Nat.le_of_ble_eq_true rfl)⟩ ⟨(by show _ ≤ 600000; omega), (by show _ ≤ 7302250; omega)⟩ xT_b xT_at 12 rfl rfl he2 rfl hl.1 rfl (Nat.le_of_ble_eq_true rfl) dL_law_219) (fun r14 w14 Hr14 locsr14 p14 hw14 => ?_)
  refine lv_pop (pc := 222) E.1 E.2.1 dL_law_222 rfl ?_
  refine lv_goto (pc := 223) (tgt := 1036) E.1 E.2.1 dL_law_223 (by decide) ?_
  exact kk _ _ _ _ _ _ p7 p14 hw14 hl
set_option maxHeartbeats 4000000 in
set_option maxRecDepth 100000 in
theorem lc_set {p : Program} {l : Launch} {e : Env} {s : State} {m : MethodId} {below : List Frame} {meth : Method} {c : Code} {H : Heap} {locs : List Loc} {cells slots : Nat} {ls : Array Slot} {D : va_G} {A : Nat → Prop} {cI cJ cN : ClassId} {ad av : Nat → Nat} {tf : Value} {t1 t2 : Nat} {b L q1 q2 : Nat} {xs : Nat → Int32} {n : NB} {wc wm : va_W} {Q : State → Prop} (E : EN p c code 4 s #[Value.ref b] RL m D cI cJ) (hXs : va_X b L xs s s.heap) (hbl : b < s.heap.size) (hbA : ¬ A b) (hXC : xC D cI cJ cN ad av tf t1 t2 A s) (hR : cells + 50 ≤ 600000 ∧ slots + 10390 ≤ 7302250) (hL : L ≤ 3072) {i : Int32} (hi : 0 ≤ i.toInt ∧ i.toInt + 6 ≤ (L : Int)) (hC : CW cI cJ cN ad n q1 wc) (hM : RW cI cJ n q2 wm) (hw : WD D A s.heap (wc ++ wm) H locs) (hl : lv_has ls 4 [(3, .int i), (2, .ref q2), (1, .ref q1), (0, .ref b)]) (kk : ∀ (n : NB) (wc wm : va_W) (H : Heap) (locs : List Loc) (ls : Array Slot), CW cI cJ cN ad n q1 wc → RW cI cJ n q2 wm → WD D A s.heap (wc ++ wm) H locs → lv_has ls 4 [(3, .int i), (2, .ref q2), (1, .ref q1), (0, .ref b)] → W p l e room_1 s m #[Value.ref b] below meth c H locs (cells + 50) (slots + 10390) Q (F0 m 1036 ls [])) : W p l e room_1 s m #[Value.ref b] below meth c H locs cells slots Q (F0 m 226 ls []) := by
  obtain ⟨fs1, he1⟩ := cw_head hC
  obtain ⟨fs2, he2⟩ := rw_head hM
  refine lv_aload_n (pc := 226) E.1 E.2.1 dL_law_226 rfl (lv_at hl 2 rfl) ?_
  refine lv_aload_n (pc := 227) E.1 E.2.1 dL_law_227 rfl (lv_at hl 3 rfl) ?_
  refine lv_iload_n (pc := 228) E.1 E.2.1 dL_law_228 rfl (lv_at hl 0 rfl) ?_
  refine lv_iconst (pc := 229) (v := 1) E.1 E.2.1 dL_law_229 (by decide +kernel) ?_
  refine lv_iadd (pc := 230) E.1 E.2.1 dL_law_230 ?_
  refine lv_topi (fun v1 ev1 => ?_)
  have hv1 : v1.toInt = i.toInt + 1 := by rw [ev1]; exact addE rfl (by decide +kernel) (by omega)
  refine va_sld (pc := 231) E.1 E.2.1 hXs hbl hbA hw.2.2.1 (inbE (a := v1.toInt) rfl (by omega)) dL_law_231 ?_
  refine lv_topi (fun x2 ex2 => ?_)
  refine lv_aload_n (pc := 232) E.1 E.2.1 dL_law_232 rfl (lv_at hl 3 rfl) ?_
  refine lv_iload_n (pc := 233) E.1 E.2.1 dL_law_233 rfl (lv_at hl 0 rfl) ?_
  refine lv_iconst (pc := 234) (v := 2) E.1 E.2.1 dL_law_234 (by decide +kernel) ?_
  refine lv_iadd (pc := 235) E.1 E.2.1 dL_law_235 ?_
  refine lv_topi (fun v3 ev3 => ?_)
  have hv3 : v3.toInt = i.toInt + 2 := by rw [ev3]; exact addE rfl (by decide +kernel) (by omega)
  refine va_sld (pc := 236) E.1 E.2.1 hXs hbl hbA hw.2.2.1 (inbE (a := v3.toInt) rfl (by omega)) dL_law_236 ?_
  refine lv_topi (fun x4 ex4 => ?_)
  refine lv_aload_n (pc := 237) E.1 E.2.1 dL_law_237 rfl (lv_at hl 3 rfl) ?_
  refine lv_iload_n (pc := 238) E.1 E.2.1 dL_law_238 rfl (lv_at hl 0 rfl) ?_
  refine lv_iconst (pc := 239) (v := 3) E.1 E.2.1 dL_law_239 (by decide +kernel) ?_
  refine lv_iadd (pc := 240) E.1 E.2.1 dL_law_240 ?_
  refine lv_topi (fun v5 ev5 => ?_)
  have hv5 : v5.toInt = i.toInt + 3 := by rw [ev5]; exact addE rfl (by decide +kernel) (by omega)
  refine va_sld (pc := 241) E.1 E.2.1 hXs hbl hbA hw.2.2.1 (inbE (a := v5.toInt) rfl (by omega)) dL_law_241 ?_
  refine lv_topi (fun x6 ex6 => ?_)
  refine lcL_i (pc := 242) (k1 := cells + 50) (n1 := slots + 10390) hw (by omega) (by omega) (rn_W (As := [.int x2, .int x4, .int x6]) (rest := []) E (P_left hw.1) (D_left hw.2.1) (k_set l D cI cJ cN H.size ad av tf t1 t2 _ q1 wc hC x2 x4 x6) (gdV q_666 q_667 q_668 q_151 q_669) hdV_X11_set ⟨rfl, rfl⟩ ⟨(Nat.le_of_ble_eq_true rfl), (Nat.le_of_ble_eq_true rfl)⟩ ⟨(by show _ ≤ 600000; omega), (by show _ ≤ 7302250; omega)⟩ xC_b (xC_at hXC hw.2.2.1 (A_l hw)) 11 rfl rfl he1 rfl hl.1 rfl (Nat.le_of_ble_eq_true rfl) dL_law_242) (fun r7 w7 Hr7 locsr7 p7 hw7 => ?_)
  refine lv_pop (pc := 245) E.1 E.2.1 dL_law_245 rfl ?_
  refine lv_aload_n (pc := 246) E.1 E.2.1 dL_law_246 rfl (lv_at hl 1 rfl) ?_
  refine lv_aload_n (pc := 247) E.1 E.2.1 dL_law_247 rfl (lv_at hl 3 rfl) ?_
  refine lv_iload_n (pc := 248) E.1 E.2.1 dL_law_248 rfl (lv_at hl 0 rfl) ?_
  refine lv_iconst (pc := 249) (v := 1) E.1 E.2.1 dL_law_249 (by decide +kernel) ?_
  refine lv_iadd (pc := 250) E.1 E.2.1 dL_law_250 ?_
  refine lv_topi (fun v8 ev8 => ?_)
  have hv8 : v8.toInt = i.toInt + 1 := by rw [ev8]; exact addE rfl (by decide +kernel) (by omega)
  refine va_sld (pc := 251) E.1 E.2.1 hXs hbl hbA hw7.2.2.1 (inbE (a := v8.toInt) rfl (by omega)) dL_law_251 ?_
  refine lv_topi (fun x9 ex9 => ?_)
  have qx9 : x2 = x9 := by rw [ex2, ex9, ev1, ev8]
  subst qx9
  refine lv_aload_n (pc := 252) E.1 E.2.1 dL_law_252 rfl (lv_at hl 3 rfl) ?_
  refine lv_iload_n (pc := 253) E.1 E.2.1 dL_law_253 rfl (lv_at hl 0 rfl) ?_
  refine lv_iconst (pc := 254) (v := 2) E.1 E.2.1 dL_law_254 (by decide +kernel) ?_
  refine lv_iadd (pc := 255) E.1 E.2.1 dL_law_255 ?_
  refine lv_topi (fun v10 ev10 => ?_)
  have hv10 : v10.toInt = i.toInt + 2 := by rw [ev10]; exact addE rfl (by decide +kernel) (by omega)
  refine va_sld (pc := 256) E.1 E.2.1 hXs hbl hbA hw7.2.2.1 (inbE (a := v10.toInt) rfl (by omega)) dL_law_256 ?_
  refine lv_topi (fun x11 ex11 => ?_)
  have qx11 : x4 = x11 := by rw [ex4, ex11, ev3, ev10]
  subst qx11
  refine lv_aload_n (pc := 257) E.1 E.2.1 dL_law_257 rfl (lv_at hl 3 rfl) ?_
  refine lv_iload_n (pc := 258) E.1 E.2.1 dL_law_258 rfl (lv_at hl 0 rfl) ?_
  refine lv_iconst (pc := 259) (v := 3) E.1 E.2.1 dL_law_259 (by decide +kernel) ?_
  refine lv_iadd (pc := 260) E.1 E.2.1 dL_law_260 ?_
  refine lv_topi (fun v12 ev12 => ?_)
  have hv12 : v12.toInt = i.toInt + 3 := by rw [ev12]; exact addE rfl (by decide +kernel) (by omega)
  refine va_sld (pc := 261) E.1 E.2.1 hXs hbl hbA hw7.2.2.1 (inbE (a := v12.toInt) rfl (by omega)) dL_law_261 ?_
  refine lv_topi (fun x13 ex13 => ?_)
  have qx13 : x6 = x13 := by rw [ex6, ex13, ev5, ev12]
  subst qx13
  refine lcR_i (pc := 262) (k1 := cells + 50) (n1 := slots + 10390) hw7 (by omega) (by omega) (rn_W (As := [.int x2, .int x4, .int x6]) (rest := []) E (P_right hw7.1) (D_right hw7.2.1) (m_set l D cI cJ Hr7.size _ q2 wm hM x2 x4 x6) (gdV q_1626 q_1627 q_1628 q_162 q_1629) hdV_X12_set ⟨rfl, rfl⟩ ⟨(Nat.le_of_ble_eq_true rfl), (Nat.le_of_ble_eq_true rfl)⟩ ⟨(by show _ ≤ 600000; omega), (by show _ ≤ 7302250; omega)⟩ xT_b xT_at 12 rfl rfl he2 rfl hl.1 rfl (Nat.le_of_ble_eq_true rfl) dL_law_262) (fun r14 w14 Hr14 locsr14 p14 hw14 => ?_)
  refine lv_pop (pc := 265) E.1 E.2.1 dL_law_265 rfl ?_
  refine lv_goto (pc := 266) (tgt := 1036) E.1 E.2.1 dL_law_266 (by decide) ?_
  exact kk _ _ _ _ _ _ p7 p14 hw14 hl
set_option maxHeartbeats 4000000 in
set_option maxRecDepth 100000 in
theorem lc_friends {p : Program} {l : Launch} {e : Env} {s : State} {m : MethodId} {below : List Frame} {meth : Method} {c : Code} {H : Heap} {locs : List Loc} {cells slots : Nat} {ls : Array Slot} {D : va_G} {A : Nat → Prop} {cI cJ cN : ClassId} {ad av : Nat → Nat} {tf : Value} {t1 t2 : Nat} {b L q1 q2 : Nat} {xs : Nat → Int32} {n : NB} {wc wm : va_W} {Q : State → Prop} (E : EN p c code 4 s #[Value.ref b] RL m D cI cJ) (hXs : va_X b L xs s s.heap) (hbl : b < s.heap.size) (hbA : ¬ A b) (hXC : xC D cI cJ cN ad av tf t1 t2 A s) (hR : cells + 50 ≤ 600000 ∧ slots + 10390 ≤ 7302250) (hL : L ≤ 3072) {i : Int32} (hi : 0 ≤ i.toInt ∧ i.toInt + 6 ≤ (L : Int)) (hC : CW cI cJ cN ad n q1 wc) (hM : RW cI cJ n q2 wm) (hw : WD D A s.heap (wc ++ wm) H locs) (hl : lv_has ls 4 [(3, .int i), (2, .ref q2), (1, .ref q1), (0, .ref b)]) (kk : ∀ (n : NB) (wc wm : va_W) (H : Heap) (locs : List Loc) (ls : Array Slot), CW cI cJ cN ad n q1 wc → RW cI cJ n q2 wm → WD D A s.heap (wc ++ wm) H locs → lv_has ls 4 [(3, .int i), (2, .ref q2), (1, .ref q1), (0, .ref b)] → W p l e room_1 s m #[Value.ref b] below meth c H locs (cells + 50) (slots + 10390) Q (F0 m 1036 ls [])) : W p l e room_1 s m #[Value.ref b] below meth c H locs cells slots Q (F0 m 269 ls []) := by
  obtain ⟨fs1, he1⟩ := cw_head hC
  obtain ⟨fs2, he2⟩ := rw_head hM
  refine lv_aload_n (pc := 269) E.1 E.2.1 dL_law_269 rfl (lv_at hl 2 rfl) ?_
  refine lv_aload_n (pc := 270) E.1 E.2.1 dL_law_270 rfl (lv_at hl 3 rfl) ?_
  refine lv_iload_n (pc := 271) E.1 E.2.1 dL_law_271 rfl (lv_at hl 0 rfl) ?_
  refine lv_iconst (pc := 272) (v := 1) E.1 E.2.1 dL_law_272 (by decide +kernel) ?_
  refine lv_iadd (pc := 273) E.1 E.2.1 dL_law_273 ?_
  refine lv_topi (fun v1 ev1 => ?_)
  have hv1 : v1.toInt = i.toInt + 1 := by rw [ev1]; exact addE rfl (by decide +kernel) (by omega)
  refine va_sld (pc := 274) E.1 E.2.1 hXs hbl hbA hw.2.2.1 (inbE (a := v1.toInt) rfl (by omega)) dL_law_274 ?_
  refine lv_topi (fun x2 ex2 => ?_)
  refine lv_aload_n (pc := 275) E.1 E.2.1 dL_law_275 rfl (lv_at hl 3 rfl) ?_
  refine lv_iload_n (pc := 276) E.1 E.2.1 dL_law_276 rfl (lv_at hl 0 rfl) ?_
  refine lv_iconst (pc := 277) (v := 2) E.1 E.2.1 dL_law_277 (by decide +kernel) ?_
  refine lv_iadd (pc := 278) E.1 E.2.1 dL_law_278 ?_
  refine lv_topi (fun v3 ev3 => ?_)
  have hv3 : v3.toInt = i.toInt + 2 := by rw [ev3]; exact addE rfl (by decide +kernel) (by omega)
  refine va_sld (pc := 279) E.1 E.2.1 hXs hbl hbA hw.2.2.1 (inbE (a := v3.toInt) rfl (by omega)) dL_law_279 ?_
  refine lv_topi (fun x4 ex4 => ?_)
  refine lv_aload_n (pc := 280) E.1 E.2.1 dL_law_280 rfl (lv_at hl 3 rfl) ?_
  refine lv_iload_n (pc := 281) E.1 E.2.1 dL_law_281 rfl (lv_at hl 0 rfl) ?_
  refine lv_iconst (pc := 282) (v := 3) E.1 E.2.1 dL_law_282 (by decide +kernel) ?_
  refine lv_iadd (pc := 283) E.1 E.2.1 dL_law_283 ?_
  refine lv_topi (fun v5 ev5 => ?_)
  have hv5 : v5.toInt = i.toInt + 3 := by rw [ev5]; exact addE rfl (by decide +kernel) (by omega)
  refine va_sld (pc := 284) E.1 E.2.1 hXs hbl hbA hw.2.2.1 (inbE (a := v5.toInt) rfl (by omega)) dL_law_284 ?_
  refine lv_topi (fun x6 ex6 => ?_)
  refine lv_if_eq (pc := 285) (tgt := 292) E.1 E.2.1 dL_law_285 (by decide) (fun c7 => ?_) (fun c7 => ?_)
  · skip
    refine lv_iconst (pc := 292) (v := 0) E.1 E.2.1 dL_law_292 (by decide +kernel) ?_
    refine lcL_i (pc := 293) (k1 := cells + 50) (n1 := slots + 10390) hw (by omega) (by omega) (rn_W (As := [.int x2, .int x4, .int 0]) (rest := []) E (P_left hw.1) (D_left hw.2.1) (k_friends l D cI cJ cN H.size ad av tf t1 t2 _ q1 wc hC x2 x4 0) (gdV q_686 q_687 q_688 q_151 q_689) hdV_X11_friends ⟨rfl, rfl⟩ ⟨(Nat.le_of_ble_eq_true rfl), (Nat.le_of_ble_eq_true rfl)⟩ ⟨(by show _ ≤ 600000; omega), (by show _ ≤ 7302250; omega)⟩ xC_b (xC_at hXC hw.2.2.1 (A_l hw)) 11 rfl rfl he1 rfl hl.1 rfl (Nat.le_of_ble_eq_true rfl) dL_law_293) (fun r8 w8 Hr8 locsr8 p8 hw8 => ?_)
    refine lv_pop (pc := 296) E.1 E.2.1 dL_law_296 rfl ?_
    refine lv_aload_n (pc := 297) E.1 E.2.1 dL_law_297 rfl (lv_at hl 1 rfl) ?_
    refine lv_aload_n (pc := 298) E.1 E.2.1 dL_law_298 rfl (lv_at hl 3 rfl) ?_
    refine lv_iload_n (pc := 299) E.1 E.2.1 dL_law_299 rfl (lv_at hl 0 rfl) ?_
    refine lv_iconst (pc := 300) (v := 1) E.1 E.2.1 dL_law_300 (by decide +kernel) ?_
    refine lv_iadd (pc := 301) E.1 E.2.1 dL_law_301 ?_
    refine lv_topi (fun v9 ev9 => ?_)
    have hv9 : v9.toInt = i.toInt + 1 := by rw [ev9]; exact addE rfl (by decide +kernel) (by omega)
    refine va_sld (pc := 302) E.1 E.2.1 hXs hbl hbA hw8.2.2.1 (inbE (a := v9.toInt) rfl (by omega)) dL_law_302 ?_
    refine lv_topi (fun x10 ex10 => ?_)
    have qx10 : x2 = x10 := by rw [ex2, ex10, ev1, ev9]
    subst qx10
    refine lv_aload_n (pc := 303) E.1 E.2.1 dL_law_303 rfl (lv_at hl 3 rfl) ?_
    refine lv_iload_n (pc := 304) E.1 E.2.1 dL_law_304 rfl (lv_at hl 0 rfl) ?_
    refine lv_iconst (pc := 305) (v := 2) E.1 E.2.1 dL_law_305 (by decide +kernel) ?_
    refine lv_iadd (pc := 306) E.1 E.2.1 dL_law_306 ?_
    refine lv_topi (fun v11 ev11 => ?_)
    have hv11 : v11.toInt = i.toInt + 2 := by rw [ev11]; exact addE rfl (by decide +kernel) (by omega)
    refine va_sld (pc := 307) E.1 E.2.1 hXs hbl hbA hw8.2.2.1 (inbE (a := v11.toInt) rfl (by omega)) dL_law_307 ?_
    refine lv_topi (fun x12 ex12 => ?_)
    have qx12 : x4 = x12 := by rw [ex4, ex12, ev3, ev11]
    subst qx12
    refine lv_aload_n (pc := 308) E.1 E.2.1 dL_law_308 rfl (lv_at hl 3 rfl) ?_
    refine lv_iload_n (pc := 309) E.1 E.2.1 dL_law_309 rfl (lv_at hl 0 rfl) ?_
    refine lv_iconst (pc := 310) (v := 3) E.1 E.2.1 dL_law_310 (by decide +kernel) ?_
    refine lv_iadd (pc := 311) E.1 E.2.1 dL_law_311 ?_
    refine lv_topi (fun v13 ev13 => ?_)
    have hv13 : v13.toInt = i.toInt + 3 := by rw [ev13]; exact addE rfl (by decide +kernel) (by omega)
    refine va_sld (pc := 312) E.1 E.2.1 hXs hbl hbA hw8.2.2.1 (inbE (a := v13.toInt) rfl (by omega)) dL_law_312 ?_
    refine lv_topi (fun x14 ex14 => ?_)
    have qx14 : x6 = x14 := by rw [ex6, ex14, ev5, ev13]
    subst qx14
    refine lv_if_eq (pc := 313) (tgt := 320) E.1 E.2.1 dL_law_313 (by decide) (fun c15 => ?_) (fun c15 => absurd c7 c15)
    refine lv_iconst (pc := 320) (v := 0) E.1 E.2.1 dL_law_320 (by decide +kernel) ?_
    refine lcR_i (pc := 321) (k1 := cells + 50) (n1 := slots + 10390) hw8 (by omega) (by omega) (rn_W (As := [.int x2, .int x4, .int 0]) (rest := []) E (P_right hw8.1) (D_right hw8.2.1) (m_friends l D cI cJ Hr8.size _ q2 wm hM x2 x4 0) (gdV q_1642 q_1643 q_1644 q_162 q_1645) hdV_X12_friends ⟨rfl, rfl⟩ ⟨(Nat.le_of_ble_eq_true rfl), (Nat.le_of_ble_eq_true rfl)⟩ ⟨(by show _ ≤ 600000; omega), (by show _ ≤ 7302250; omega)⟩ xT_b xT_at 12 rfl rfl he2 rfl hl.1 rfl (Nat.le_of_ble_eq_true rfl) dL_law_321) (fun r16 w16 Hr16 locsr16 p16 hw16 => ?_)
    refine lv_pop (pc := 324) E.1 E.2.1 dL_law_324 rfl ?_
    refine lv_goto (pc := 325) (tgt := 1036) E.1 E.2.1 dL_law_325 (by decide) ?_
    exact kk _ _ _ _ _ _ p8 p16 hw16 hl
  · skip
    refine lv_iconst (pc := 288) (v := 1) E.1 E.2.1 dL_law_288 (by decide +kernel) ?_
    refine lv_goto (pc := 289) (tgt := 293) E.1 E.2.1 dL_law_289 (by decide) ?_
    refine lcL_i (pc := 293) (k1 := cells + 50) (n1 := slots + 10390) hw (by omega) (by omega) (rn_W (As := [.int x2, .int x4, .int 1]) (rest := []) E (P_left hw.1) (D_left hw.2.1) (k_friends l D cI cJ cN H.size ad av tf t1 t2 _ q1 wc hC x2 x4 1) (gdV q_686 q_687 q_688 q_151 q_689) hdV_X11_friends ⟨rfl, rfl⟩ ⟨(Nat.le_of_ble_eq_true rfl), (Nat.le_of_ble_eq_true rfl)⟩ ⟨(by show _ ≤ 600000; omega), (by show _ ≤ 7302250; omega)⟩ xC_b (xC_at hXC hw.2.2.1 (A_l hw)) 11 rfl rfl he1 rfl hl.1 rfl (Nat.le_of_ble_eq_true rfl) dL_law_293) (fun r17 w17 Hr17 locsr17 p17 hw17 => ?_)
    refine lv_pop (pc := 296) E.1 E.2.1 dL_law_296 rfl ?_
    refine lv_aload_n (pc := 297) E.1 E.2.1 dL_law_297 rfl (lv_at hl 1 rfl) ?_
    refine lv_aload_n (pc := 298) E.1 E.2.1 dL_law_298 rfl (lv_at hl 3 rfl) ?_
    refine lv_iload_n (pc := 299) E.1 E.2.1 dL_law_299 rfl (lv_at hl 0 rfl) ?_
    refine lv_iconst (pc := 300) (v := 1) E.1 E.2.1 dL_law_300 (by decide +kernel) ?_
    refine lv_iadd (pc := 301) E.1 E.2.1 dL_law_301 ?_
    refine lv_topi (fun v18 ev18 => ?_)
    have hv18 : v18.toInt = i.toInt + 1 := by rw [ev18]; exact addE rfl (by decide +kernel) (by omega)
    refine va_sld (pc := 302) E.1 E.2.1 hXs hbl hbA hw17.2.2.1 (inbE (a := v18.toInt) rfl (by omega)) dL_law_302 ?_
    refine lv_topi (fun x19 ex19 => ?_)
    have qx19 : x2 = x19 := by rw [ex2, ex19, ev1, ev18]
    subst qx19
    refine lv_aload_n (pc := 303) E.1 E.2.1 dL_law_303 rfl (lv_at hl 3 rfl) ?_
    refine lv_iload_n (pc := 304) E.1 E.2.1 dL_law_304 rfl (lv_at hl 0 rfl) ?_
    refine lv_iconst (pc := 305) (v := 2) E.1 E.2.1 dL_law_305 (by decide +kernel) ?_
    refine lv_iadd (pc := 306) E.1 E.2.1 dL_law_306 ?_
    refine lv_topi (fun v20 ev20 => ?_)
    have hv20 : v20.toInt = i.toInt + 2 := by rw [ev20]; exact addE rfl (by decide +kernel) (by omega)
    refine va_sld (pc := 307) E.1 E.2.1 hXs hbl hbA hw17.2.2.1 (inbE (a := v20.toInt) rfl (by omega)) dL_law_307 ?_
    refine lv_topi (fun x21 ex21 => ?_)
    have qx21 : x4 = x21 := by rw [ex4, ex21, ev3, ev20]
    subst qx21
    refine lv_aload_n (pc := 308) E.1 E.2.1 dL_law_308 rfl (lv_at hl 3 rfl) ?_
    refine lv_iload_n (pc := 309) E.1 E.2.1 dL_law_309 rfl (lv_at hl 0 rfl) ?_
    refine lv_iconst (pc := 310) (v := 3) E.1 E.2.1 dL_law_310 (by decide +kernel) ?_
    refine lv_iadd (pc := 311) E.1 E.2.1 dL_law_311 ?_
    refine lv_topi (fun v22 ev22 => ?_)
    have hv22 : v22.toInt = i.toInt + 3 := by rw [ev22]; exact addE rfl (by decide +kernel) (by omega)
    refine va_sld (pc := 312) E.1 E.2.1 hXs hbl hbA hw17.2.2.1 (inbE (a := v22.toInt) rfl (by omega)) dL_law_312 ?_
    refine lv_topi (fun x23 ex23 => ?_)
    have qx23 : x6 = x23 := by rw [ex6, ex23, ev5, ev22]
    subst qx23
    refine lv_if_eq (pc := 313) (tgt := 320) E.1 E.2.1 dL_law_313 (by decide) (fun c24 => absurd c24 c7) (fun c24 => ?_)
    refine lv_iconst (pc := 316) (v := 1) E.1 E.2.1 dL_law_316 (by decide +kernel) ?_
    refine lv_goto (pc := 317) (tgt := 321) E.1 E.2.1 dL_law_317 (by decide) ?_
    refine lcR_i (pc := 321) (k1 := cells + 50) (n1 := slots + 10390) hw17 (by omega) (by omega) (rn_W (As := [.int x2, .int x4, .int 1]) (rest := []) E (P_right hw17.1) (D_right hw17.2.1) (m_friends l D cI cJ Hr17.size _ q2 wm hM x2 x4 1) (gdV q_1642 q_1643 q_1644 q_162 q_1645) hdV_X12_friends ⟨rfl, rfl⟩ ⟨(Nat.le_of_ble_eq_true rfl), (Nat.le_of_ble_eq_true rfl)⟩ ⟨(by show _ ≤ 600000; omega), (by show _ ≤ 7302250; omega)⟩ xT_b xT_at 12 rfl rfl he2 rfl hl.1 rfl (Nat.le_of_ble_eq_true rfl) dL_law_321) (fun r25 w25 Hr25 locsr25 p25 hw25 => ?_)
    refine lv_pop (pc := 324) E.1 E.2.1 dL_law_324 rfl ?_
    refine lv_goto (pc := 325) (tgt := 1036) E.1 E.2.1 dL_law_325 (by decide) ?_
    exact kk _ _ _ _ _ _ p17 p25 hw25 hl
set_option maxHeartbeats 4000000 in
set_option maxRecDepth 100000 in
theorem lc_feed {p : Program} {l : Launch} {e : Env} {s : State} {m : MethodId} {below : List Frame} {meth : Method} {c : Code} {H : Heap} {locs : List Loc} {cells slots : Nat} {ls : Array Slot} {D : va_G} {A : Nat → Prop} {cI cJ cN : ClassId} {ad av : Nat → Nat} {tf : Value} {t1 t2 : Nat} {b L q1 q2 : Nat} {xs : Nat → Int32} {n : NB} {wc wm : va_W} {Q : State → Prop} (E : EN p c code 4 s #[Value.ref b] RL m D cI cJ) (hXs : va_X b L xs s s.heap) (hbl : b < s.heap.size) (hbA : ¬ A b) (hXC : xC D cI cJ cN ad av tf t1 t2 A s) (hR : cells + 50 ≤ 600000 ∧ slots + 10390 ≤ 7302250) (hL : L ≤ 3072) {i : Int32} (hi : 0 ≤ i.toInt ∧ i.toInt + 6 ≤ (L : Int)) (hC : CW cI cJ cN ad n q1 wc) (hM : RW cI cJ n q2 wm) (hw : WD D A s.heap (wc ++ wm) H locs) (hl : lv_has ls 4 [(3, .int i), (2, .ref q2), (1, .ref q1), (0, .ref b)]) (kk : ∀ (n : NB) (wc wm : va_W) (H : Heap) (locs : List Loc) (ls : Array Slot), CW cI cJ cN ad n q1 wc → RW cI cJ n q2 wm → WD D A s.heap (wc ++ wm) H locs → lv_has ls 4 [(3, .int i), (2, .ref q2), (1, .ref q1), (0, .ref b)] → W p l e room_1 s m #[Value.ref b] below meth c H locs (cells + 50) (slots + 10390) Q (F0 m 1036 ls [])) : W p l e room_1 s m #[Value.ref b] below meth c H locs cells slots Q (F0 m 328 ls []) := by
  obtain ⟨fs1, he1⟩ := cw_head hC
  obtain ⟨fs2, he2⟩ := rw_head hM
  refine lv_aload_n (pc := 328) E.1 E.2.1 dL_law_328 rfl (lv_at hl 2 rfl) ?_
  refine lv_aload_n (pc := 329) E.1 E.2.1 dL_law_329 rfl (lv_at hl 3 rfl) ?_
  refine lv_iload_n (pc := 330) E.1 E.2.1 dL_law_330 rfl (lv_at hl 0 rfl) ?_
  refine lv_iconst (pc := 331) (v := 1) E.1 E.2.1 dL_law_331 (by decide +kernel) ?_
  refine lv_iadd (pc := 332) E.1 E.2.1 dL_law_332 ?_
  refine lv_topi (fun v1 ev1 => ?_)
  have hv1 : v1.toInt = i.toInt + 1 := by rw [ev1]; exact addE rfl (by decide +kernel) (by omega)
  refine va_sld (pc := 333) E.1 E.2.1 hXs hbl hbA hw.2.2.1 (inbE (a := v1.toInt) rfl (by omega)) dL_law_333 ?_
  refine lv_topi (fun x2 ex2 => ?_)
  refine lv_aload_n (pc := 334) E.1 E.2.1 dL_law_334 rfl (lv_at hl 3 rfl) ?_
  refine lv_iload_n (pc := 335) E.1 E.2.1 dL_law_335 rfl (lv_at hl 0 rfl) ?_
  refine lv_iconst (pc := 336) (v := 2) E.1 E.2.1 dL_law_336 (by decide +kernel) ?_
  refine lv_iadd (pc := 337) E.1 E.2.1 dL_law_337 ?_
  refine lv_topi (fun v3 ev3 => ?_)
  have hv3 : v3.toInt = i.toInt + 2 := by rw [ev3]; exact addE rfl (by decide +kernel) (by omega)
  refine va_sld (pc := 338) E.1 E.2.1 hXs hbl hbA hw.2.2.1 (inbE (a := v3.toInt) rfl (by omega)) dL_law_338 ?_
  refine lv_topi (fun x4 ex4 => ?_)
  refine lv_aload_n (pc := 339) E.1 E.2.1 dL_law_339 rfl (lv_at hl 3 rfl) ?_
  refine lv_iload_n (pc := 340) E.1 E.2.1 dL_law_340 rfl (lv_at hl 0 rfl) ?_
  refine lv_iconst (pc := 341) (v := 3) E.1 E.2.1 dL_law_341 (by decide +kernel) ?_
  refine lv_iadd (pc := 342) E.1 E.2.1 dL_law_342 ?_
  refine lv_topi (fun v5 ev5 => ?_)
  have hv5 : v5.toInt = i.toInt + 3 := by rw [ev5]; exact addE rfl (by decide +kernel) (by omega)
  refine va_sld (pc := 343) E.1 E.2.1 hXs hbl hbA hw.2.2.1 (inbE (a := v5.toInt) rfl (by omega)) dL_law_343 ?_
  refine lv_topi (fun x6 ex6 => ?_)
  refine lv_aload_n (pc := 344) E.1 E.2.1 dL_law_344 rfl (lv_at hl 3 rfl) ?_
  refine lv_iload_n (pc := 345) E.1 E.2.1 dL_law_345 rfl (lv_at hl 0 rfl) ?_
  refine lv_iconst (pc := 346) (v := 4) E.1 E.2.1 dL_law_346 (by decide +kernel) ?_
  refine lv_iadd (pc := 347) E.1 E.2.1 dL_law_347 ?_
  refine lv_topi (fun v7 ev7 => ?_)
  have hv7 : v7.toInt = i.toInt + 4 := by rw [ev7]; exact addE rfl (by decide +kernel) (by omega)
  refine va_sld (pc := 348) E.1 E.2.1 hXs hbl hbA hw.2.2.1 (inbE (a := v7.toInt) rfl (by omega)) dL_law_348 ?_
  refine lv_topi (fun x8 ex8 => ?_)
  refine lv_aload_n (pc := 349) E.1 E.2.1 dL_law_349 rfl (lv_at hl 3 rfl) ?_
  refine lv_iload_n (pc := 350) E.1 E.2.1 dL_law_350 rfl (lv_at hl 0 rfl) ?_
  refine lv_iconst (pc := 351) (v := 5) E.1 E.2.1 dL_law_351 (by decide +kernel) ?_
  refine lv_iadd (pc := 352) E.1 E.2.1 dL_law_352 ?_
  refine lv_topi (fun v9 ev9 => ?_)
  have hv9 : v9.toInt = i.toInt + 5 := by rw [ev9]; exact addE rfl (by decide +kernel) (by omega)
  refine va_sld (pc := 353) E.1 E.2.1 hXs hbl hbA hw.2.2.1 (inbE (a := v9.toInt) rfl (by omega)) dL_law_353 ?_
  refine lv_topi (fun x10 ex10 => ?_)
  refine lcL_i (pc := 354) (k1 := cells + 50) (n1 := slots + 10390) hw (by omega) (by omega) (rn_W (As := [.int x2, .int x4, .int x6, .int x8, .int x10]) (rest := []) E (P_left hw.1) (D_left hw.2.1) (k_feed l D cI cJ cN H.size ad av tf t1 t2 _ q1 wc hC x2 x4 x6 x8 x10) (gdV q_694 q_695 q_696 q_151 q_697) hdV_X11_feed ⟨rfl, rfl⟩ ⟨(Nat.le_of_ble_eq_true rfl), (Nat.le_of_ble_eq_true rfl)⟩ ⟨(by show _ ≤ 600000; omega), (by show _ ≤ 7302250; omega)⟩ xC_b (xC_at hXC hw.2.2.1 (A_l hw)) 11 rfl rfl he1 rfl hl.1 rfl (Nat.le_of_ble_eq_true rfl) dL_law_354) (fun r11 w11 Hr11 locsr11 p11 hw11 => ?_)
  refine lv_pop (pc := 357) E.1 E.2.1 dL_law_357 rfl ?_
  refine lv_aload_n (pc := 358) E.1 E.2.1 dL_law_358 rfl (lv_at hl 1 rfl) ?_
  refine lv_aload_n (pc := 359) E.1 E.2.1 dL_law_359 rfl (lv_at hl 3 rfl) ?_
  refine lv_iload_n (pc := 360) E.1 E.2.1 dL_law_360 rfl (lv_at hl 0 rfl) ?_
  refine lv_iconst (pc := 361) (v := 1) E.1 E.2.1 dL_law_361 (by decide +kernel) ?_
  refine lv_iadd (pc := 362) E.1 E.2.1 dL_law_362 ?_
  refine lv_topi (fun v12 ev12 => ?_)
  have hv12 : v12.toInt = i.toInt + 1 := by rw [ev12]; exact addE rfl (by decide +kernel) (by omega)
  refine va_sld (pc := 363) E.1 E.2.1 hXs hbl hbA hw11.2.2.1 (inbE (a := v12.toInt) rfl (by omega)) dL_law_363 ?_
  refine lv_topi (fun x13 ex13 => ?_)
  have qx13 : x2 = x13 := by rw [ex2, ex13, ev1, ev12]
  subst qx13
  refine lv_aload_n (pc := 364) E.1 E.2.1 dL_law_364 rfl (lv_at hl 3 rfl) ?_
  refine lv_iload_n (pc := 365) E.1 E.2.1 dL_law_365 rfl (lv_at hl 0 rfl) ?_
  refine lv_iconst (pc := 366) (v := 2) E.1 E.2.1 dL_law_366 (by decide +kernel) ?_
  refine lv_iadd (pc := 367) E.1 E.2.1 dL_law_367 ?_
  refine lv_topi (fun v14 ev14 => ?_)
  have hv14 : v14.toInt = i.toInt + 2 := by rw [ev14]; exact addE rfl (by decide +kernel) (by omega)
  refine va_sld (pc := 368) E.1 E.2.1 hXs hbl hbA hw11.2.2.1 (inbE (a := v14.toInt) rfl (by omega)) dL_law_368 ?_
  refine lv_topi (fun x15 ex15 => ?_)
  have qx15 : x4 = x15 := by rw [ex4, ex15, ev3, ev14]
  subst qx15
  refine lv_aload_n (pc := 369) E.1 E.2.1 dL_law_369 rfl (lv_at hl 3 rfl) ?_
  refine lv_iload_n (pc := 370) E.1 E.2.1 dL_law_370 rfl (lv_at hl 0 rfl) ?_
  refine lv_iconst (pc := 371) (v := 3) E.1 E.2.1 dL_law_371 (by decide +kernel) ?_
  refine lv_iadd (pc := 372) E.1 E.2.1 dL_law_372 ?_
  refine lv_topi (fun v16 ev16 => ?_)
  have hv16 : v16.toInt = i.toInt + 3 := by rw [ev16]; exact addE rfl (by decide +kernel) (by omega)
  refine va_sld (pc := 373) E.1 E.2.1 hXs hbl hbA hw11.2.2.1 (inbE (a := v16.toInt) rfl (by omega)) dL_law_373 ?_
  refine lv_topi (fun x17 ex17 => ?_)
  have qx17 : x6 = x17 := by rw [ex6, ex17, ev5, ev16]
  subst qx17
  refine lv_aload_n (pc := 374) E.1 E.2.1 dL_law_374 rfl (lv_at hl 3 rfl) ?_
  refine lv_iload_n (pc := 375) E.1 E.2.1 dL_law_375 rfl (lv_at hl 0 rfl) ?_
  refine lv_iconst (pc := 376) (v := 4) E.1 E.2.1 dL_law_376 (by decide +kernel) ?_
  refine lv_iadd (pc := 377) E.1 E.2.1 dL_law_377 ?_
  refine lv_topi (fun v18 ev18 => ?_)
  have hv18 : v18.toInt = i.toInt + 4 := by rw [ev18]; exact addE rfl (by decide +kernel) (by omega)
  refine va_sld (pc := 378) E.1 E.2.1 hXs hbl hbA hw11.2.2.1 (inbE (a := v18.toInt) rfl (by omega)) dL_law_378 ?_
  refine lv_topi (fun x19 ex19 => ?_)
  have qx19 : x8 = x19 := by rw [ex8, ex19, ev7, ev18]
  subst qx19
  refine lv_aload_n (pc := 379) E.1 E.2.1 dL_law_379 rfl (lv_at hl 3 rfl) ?_
  refine lv_iload_n (pc := 380) E.1 E.2.1 dL_law_380 rfl (lv_at hl 0 rfl) ?_
  refine lv_iconst (pc := 381) (v := 5) E.1 E.2.1 dL_law_381 (by decide +kernel) ?_
  refine lv_iadd (pc := 382) E.1 E.2.1 dL_law_382 ?_
  refine lv_topi (fun v20 ev20 => ?_)
  have hv20 : v20.toInt = i.toInt + 5 := by rw [ev20]; exact addE rfl (by decide +kernel) (by omega)
  refine va_sld (pc := 383) E.1 E.2.1 hXs hbl hbA hw11.2.2.1 (inbE (a := v20.toInt) rfl (by omega)) dL_law_383 ?_
  refine lv_topi (fun x21 ex21 => ?_)
  have qx21 : x10 = x21 := by rw [ex10, ex21, ev9, ev20]
  subst qx21
  refine lcR_i (pc := 384) (k1 := cells + 50) (n1 := slots + 10390) hw11 (by omega) (by omega) (rn_W (As := [.int x2, .int x4, .int x6, .int x8, .int x10]) (rest := []) E (P_right hw11.1) (D_right hw11.2.1) (m_feed l D cI cJ Hr11.size _ q2 wm hM x2 x4 x6 x8 x10) (gdV q_1646 q_1647 q_1648 q_162 q_1649) hdV_X12_feed ⟨rfl, rfl⟩ ⟨(Nat.le_of_ble_eq_true rfl), (Nat.le_of_ble_eq_true rfl)⟩ ⟨(by show _ ≤ 600000; omega), (by show _ ≤ 7302250; omega)⟩ xT_b xT_at 12 rfl rfl he2 rfl hl.1 rfl (Nat.le_of_ble_eq_true rfl) dL_law_384) (fun r22 w22 Hr22 locsr22 p22 hw22 => ?_)
  refine lv_pop (pc := 387) E.1 E.2.1 dL_law_387 rfl ?_
  refine lv_goto (pc := 388) (tgt := 1036) E.1 E.2.1 dL_law_388 (by decide) ?_
  exact kk _ _ _ _ _ _ p11 p22 hw22 hl
set_option maxHeartbeats 4000000 in
set_option maxRecDepth 100000 in
theorem lc_end {p : Program} {l : Launch} {e : Env} {s : State} {m : MethodId} {below : List Frame} {meth : Method} {c : Code} {H : Heap} {locs : List Loc} {cells slots : Nat} {ls : Array Slot} {D : va_G} {A : Nat → Prop} {cI cJ cN : ClassId} {ad av : Nat → Nat} {tf : Value} {t1 t2 : Nat} {b L q1 q2 : Nat} {xs : Nat → Int32} {n : NB} {wc wm : va_W} {Q : State → Prop} (E : EN p c code 4 s #[Value.ref b] RL m D cI cJ) (hXs : va_X b L xs s s.heap) (hbl : b < s.heap.size) (hbA : ¬ A b) (hXC : xC D cI cJ cN ad av tf t1 t2 A s) (hR : cells + 50 ≤ 600000 ∧ slots + 10390 ≤ 7302250) (hL : L ≤ 3072) {i : Int32} (hi : 0 ≤ i.toInt ∧ i.toInt + 6 ≤ (L : Int)) (hC : CW cI cJ cN ad n q1 wc) (hM : RW cI cJ n q2 wm) (hw : WD D A s.heap (wc ++ wm) H locs) (hl : lv_has ls 4 [(3, .int i), (2, .ref q2), (1, .ref q1), (0, .ref b)]) (kk : ∀ (n : NB) (wc wm : va_W) (H : Heap) (locs : List Loc) (ls : Array Slot), CW cI cJ cN ad n q1 wc → RW cI cJ n q2 wm → WD D A s.heap (wc ++ wm) H locs → lv_has ls 4 [(3, .int i), (2, .ref q2), (1, .ref q1), (0, .ref b)] → W p l e room_1 s m #[Value.ref b] below meth c H locs (cells + 50) (slots + 10390) Q (F0 m 1036 ls [])) : W p l e room_1 s m #[Value.ref b] below meth c H locs cells slots Q (F0 m 391 ls []) := by
  obtain ⟨fs1, he1⟩ := cw_head hC
  obtain ⟨fs2, he2⟩ := rw_head hM
  refine lv_aload_n (pc := 391) E.1 E.2.1 dL_law_391 rfl (lv_at hl 2 rfl) ?_
  refine lv_aload_n (pc := 392) E.1 E.2.1 dL_law_392 rfl (lv_at hl 3 rfl) ?_
  refine lv_iload_n (pc := 393) E.1 E.2.1 dL_law_393 rfl (lv_at hl 0 rfl) ?_
  refine lv_iconst (pc := 394) (v := 1) E.1 E.2.1 dL_law_394 (by decide +kernel) ?_
  refine lv_iadd (pc := 395) E.1 E.2.1 dL_law_395 ?_
  refine lv_topi (fun v1 ev1 => ?_)
  have hv1 : v1.toInt = i.toInt + 1 := by rw [ev1]; exact addE rfl (by decide +kernel) (by omega)
  refine va_sld (pc := 396) E.1 E.2.1 hXs hbl hbA hw.2.2.1 (inbE (a := v1.toInt) rfl (by omega)) dL_law_396 ?_
  refine lv_topi (fun x2 ex2 => ?_)
  refine lcL_i (pc := 397) (k1 := cells + 50) (n1 := slots + 10390) hw (by omega) (by omega) (rn_W (As := [.int x2]) (rest := []) E (P_left hw.1) (D_left hw.2.1) (k_end l D cI cJ cN H.size ad av tf t1 t2 _ q1 wc hC x2) (gdV q_702 q_703 q_704 q_151 q_705) hdV_X11_end ⟨rfl, rfl⟩ ⟨(Nat.le_of_ble_eq_true rfl), (Nat.le_of_ble_eq_true rfl)⟩ ⟨(by show _ ≤ 600000; omega), (by show _ ≤ 7302250; omega)⟩ xC_b (xC_at hXC hw.2.2.1 (A_l hw)) 11 rfl rfl he1 rfl hl.1 rfl (Nat.le_of_ble_eq_true rfl) dL_law_397) (fun r3 w3 Hr3 locsr3 p3 hw3 => ?_)
  refine lv_pop (pc := 400) E.1 E.2.1 dL_law_400 rfl ?_
  refine lv_aload_n (pc := 401) E.1 E.2.1 dL_law_401 rfl (lv_at hl 1 rfl) ?_
  refine lv_aload_n (pc := 402) E.1 E.2.1 dL_law_402 rfl (lv_at hl 3 rfl) ?_
  refine lv_iload_n (pc := 403) E.1 E.2.1 dL_law_403 rfl (lv_at hl 0 rfl) ?_
  refine lv_iconst (pc := 404) (v := 1) E.1 E.2.1 dL_law_404 (by decide +kernel) ?_
  refine lv_iadd (pc := 405) E.1 E.2.1 dL_law_405 ?_
  refine lv_topi (fun v4 ev4 => ?_)
  have hv4 : v4.toInt = i.toInt + 1 := by rw [ev4]; exact addE rfl (by decide +kernel) (by omega)
  refine va_sld (pc := 406) E.1 E.2.1 hXs hbl hbA hw3.2.2.1 (inbE (a := v4.toInt) rfl (by omega)) dL_law_406 ?_
  refine lv_topi (fun x5 ex5 => ?_)
  have qx5 : x2 = x5 := by rw [ex2, ex5, ev1, ev4]
  subst qx5
  refine lcR_i (pc := 407) (k1 := cells + 50) (n1 := slots + 10390) hw3 (by omega) (by omega) (rn_W (As := [.int x2]) (rest := []) E (P_right hw3.1) (D_right hw3.2.1) (m_end l D cI cJ Hr3.size _ q2 wm hM x2) (gdV q_1654 q_1655 q_1656 q_162 q_1657) hdV_X12_end ⟨rfl, rfl⟩ ⟨(Nat.le_of_ble_eq_true rfl), (Nat.le_of_ble_eq_true rfl)⟩ ⟨(by show _ ≤ 600000; omega), (by show _ ≤ 7302250; omega)⟩ xT_b xT_at 12 rfl rfl he2 rfl hl.1 rfl (Nat.le_of_ble_eq_true rfl) dL_law_407) (fun r6 w6 Hr6 locsr6 p6 hw6 => ?_)
  refine lv_pop (pc := 410) E.1 E.2.1 dL_law_410 rfl ?_
  refine lv_goto (pc := 411) (tgt := 1036) E.1 E.2.1 dL_law_411 (by decide) ?_
  exact kk _ _ _ _ _ _ p3 p6 hw6 hl
set_option maxHeartbeats 4000000 in
set_option maxRecDepth 100000 in
theorem lc_text {p : Program} {l : Launch} {e : Env} {s : State} {m : MethodId} {below : List Frame} {meth : Method} {c : Code} {H : Heap} {locs : List Loc} {cells slots : Nat} {ls : Array Slot} {D : va_G} {A : Nat → Prop} {cI cJ cN : ClassId} {ad av : Nat → Nat} {tf : Value} {t1 t2 : Nat} {b L q1 q2 : Nat} {xs : Nat → Int32} {n : NB} {wc wm : va_W} {Q : State → Prop} (E : EN p c code 4 s #[Value.ref b] RL m D cI cJ) (hXs : va_X b L xs s s.heap) (hbl : b < s.heap.size) (hbA : ¬ A b) (hXC : xC D cI cJ cN ad av tf t1 t2 A s) (hR : cells + 50 ≤ 600000 ∧ slots + 10390 ≤ 7302250) (hL : L ≤ 3072) {i : Int32} (hi : 0 ≤ i.toInt ∧ i.toInt + 6 ≤ (L : Int)) (hC : CW cI cJ cN ad n q1 wc) (hM : RW cI cJ n q2 wm) (hw : WD D A s.heap (wc ++ wm) H locs) (hl : lv_has ls 4 [(3, .int i), (2, .ref q2), (1, .ref q1), (0, .ref b)]) (kk : ∀ (n : NB) (wc wm : va_W) (H : Heap) (locs : List Loc) (ls : Array Slot), CW cI cJ cN ad n q1 wc → RW cI cJ n q2 wm → WD D A s.heap (wc ++ wm) H locs → lv_has ls 4 [(3, .int i), (2, .ref q2), (1, .ref q1), (0, .ref b)] → W p l e room_1 s m #[Value.ref b] below meth c H locs (cells + 50) (slots + 10390) Q (F0 m 1036 ls [])) : W p l e room_1 s m #[Value.ref b] below meth c H locs cells slots Q (F0 m 414 ls []) := by
  obtain ⟨fs1, he1⟩ := cw_head hC
  obtain ⟨fs2, he2⟩ := rw_head hM
  refine lv_aload_n (pc := 414) E.1 E.2.1 dL_law_414 rfl (lv_at hl 2 rfl) ?_
  refine lv_aload_n (pc := 415) E.1 E.2.1 dL_law_415 rfl (lv_at hl 3 rfl) ?_
  refine lv_iload_n (pc := 416) E.1 E.2.1 dL_law_416 rfl (lv_at hl 0 rfl) ?_
  refine lv_iconst (pc := 417) (v := 1) E.1 E.2.1 dL_law_417 (by decide +kernel) ?_
  refine lv_iadd (pc := 418) E.1 E.2.1 dL_law_418 ?_
  refine lv_topi (fun v1 ev1 => ?_)
  have hv1 : v1.toInt = i.toInt + 1 := by rw [ev1]; exact addE rfl (by decide +kernel) (by omega)
  refine va_sld (pc := 419) E.1 E.2.1 hXs hbl hbA hw.2.2.1 (inbE (a := v1.toInt) rfl (by omega)) dL_law_419 ?_
  refine lv_topi (fun x2 ex2 => ?_)
  refine lcL_i (pc := 420) (k1 := cells + 50) (n1 := slots + 10390) hw (by omega) (by omega) (rn_W (As := [.int x2]) (rest := []) E (P_left hw.1) (D_left hw.2.1) (k_text l D cI cJ cN H.size ad av tf t1 t2 _ q1 wc hC x2) (gdV q_706 q_707 q_708 q_151 q_709) hdV_X11_text ⟨rfl, rfl⟩ ⟨(Nat.le_of_ble_eq_true rfl), (Nat.le_of_ble_eq_true rfl)⟩ ⟨(by show _ ≤ 600000; omega), (by show _ ≤ 7302250; omega)⟩ xC_b (xC_at hXC hw.2.2.1 (A_l hw)) 11 rfl rfl he1 rfl hl.1 rfl (Nat.le_of_ble_eq_true rfl) dL_law_420) (fun r3 w3 Hr3 locsr3 p3 hw3 => ?_)
  refine lv_pop (pc := 423) E.1 E.2.1 dL_law_423 rfl ?_
  refine lv_aload_n (pc := 424) E.1 E.2.1 dL_law_424 rfl (lv_at hl 1 rfl) ?_
  refine lv_aload_n (pc := 425) E.1 E.2.1 dL_law_425 rfl (lv_at hl 3 rfl) ?_
  refine lv_iload_n (pc := 426) E.1 E.2.1 dL_law_426 rfl (lv_at hl 0 rfl) ?_
  refine lv_iconst (pc := 427) (v := 1) E.1 E.2.1 dL_law_427 (by decide +kernel) ?_
  refine lv_iadd (pc := 428) E.1 E.2.1 dL_law_428 ?_
  refine lv_topi (fun v4 ev4 => ?_)
  have hv4 : v4.toInt = i.toInt + 1 := by rw [ev4]; exact addE rfl (by decide +kernel) (by omega)
  refine va_sld (pc := 429) E.1 E.2.1 hXs hbl hbA hw3.2.2.1 (inbE (a := v4.toInt) rfl (by omega)) dL_law_429 ?_
  refine lv_topi (fun x5 ex5 => ?_)
  have qx5 : x2 = x5 := by rw [ex2, ex5, ev1, ev4]
  subst qx5
  refine lcR_i (pc := 430) (k1 := cells + 50) (n1 := slots + 10390) hw3 (by omega) (by omega) (rn_W (As := [.int x2]) (rest := []) E (P_right hw3.1) (D_right hw3.2.1) (m_text l D cI cJ Hr3.size _ q2 wm hM x2) (gdV q_1658 q_1659 q_1660 q_162 q_1661) hdV_X12_text ⟨rfl, rfl⟩ ⟨(Nat.le_of_ble_eq_true rfl), (Nat.le_of_ble_eq_true rfl)⟩ ⟨(by show _ ≤ 600000; omega), (by show _ ≤ 7302250; omega)⟩ xT_b xT_at 12 rfl rfl he2 rfl hl.1 rfl (Nat.le_of_ble_eq_true rfl) dL_law_430) (fun r6 w6 Hr6 locsr6 p6 hw6 => ?_)
  refine lv_pop (pc := 433) E.1 E.2.1 dL_law_433 rfl ?_
  refine lv_goto (pc := 434) (tgt := 1036) E.1 E.2.1 dL_law_434 (by decide) ?_
  exact kk _ _ _ _ _ _ p3 p6 hw6 hl
set_option maxHeartbeats 4000000 in
set_option maxRecDepth 100000 in
theorem lc_fault {p : Program} {l : Launch} {e : Env} {s : State} {m : MethodId} {below : List Frame} {meth : Method} {c : Code} {H : Heap} {locs : List Loc} {cells slots : Nat} {ls : Array Slot} {D : va_G} {A : Nat → Prop} {cI cJ cN : ClassId} {ad av : Nat → Nat} {tf : Value} {t1 t2 : Nat} {b L q1 q2 : Nat} {xs : Nat → Int32} {n : NB} {wc wm : va_W} {Q : State → Prop} (E : EN p c code 4 s #[Value.ref b] RL m D cI cJ) (hXs : va_X b L xs s s.heap) (hbl : b < s.heap.size) (hbA : ¬ A b) (hXC : xC D cI cJ cN ad av tf t1 t2 A s) (hR : cells + 50 ≤ 600000 ∧ slots + 10390 ≤ 7302250) (hL : L ≤ 3072) {i : Int32} (hi : 0 ≤ i.toInt ∧ i.toInt + 6 ≤ (L : Int)) (hC : CW cI cJ cN ad n q1 wc) (hM : RW cI cJ n q2 wm) (hw : WD D A s.heap (wc ++ wm) H locs) (hl : lv_has ls 4 [(3, .int i), (2, .ref q2), (1, .ref q1), (0, .ref b)]) (kk : ∀ (n : NB) (wc wm : va_W) (H : Heap) (locs : List Loc) (ls : Array Slot), CW cI cJ cN ad n q1 wc → RW cI cJ n q2 wm → WD D A s.heap (wc ++ wm) H locs → lv_has ls 4 [(3, .int i), (2, .ref q2), (1, .ref q1), (0, .ref b)] → W p l e room_1 s m #[Value.ref b] below meth c H locs (cells + 50) (slots + 10390) Q (F0 m 1036 ls [])) : W p l e room_1 s m #[Value.ref b] below meth c H locs cells slots Q (F0 m 437 ls []) := by
  obtain ⟨fs1, he1⟩ := cw_head hC
  obtain ⟨fs2, he2⟩ := rw_head hM
  refine lv_aload_n (pc := 437) E.1 E.2.1 dL_law_437 rfl (lv_at hl 2 rfl) ?_
  refine lv_aload_n (pc := 438) E.1 E.2.1 dL_law_438 rfl (lv_at hl 3 rfl) ?_
  refine lv_iload_n (pc := 439) E.1 E.2.1 dL_law_439 rfl (lv_at hl 0 rfl) ?_
  refine lv_iconst (pc := 440) (v := 1) E.1 E.2.1 dL_law_440 (by decide +kernel) ?_
  refine lv_iadd (pc := 441) E.1 E.2.1 dL_law_441 ?_
  refine lv_topi (fun v1 ev1 => ?_)
  have hv1 : v1.toInt = i.toInt + 1 := by rw [ev1]; exact addE rfl (by decide +kernel) (by omega)
  refine va_sld (pc := 442) E.1 E.2.1 hXs hbl hbA hw.2.2.1 (inbE (a := v1.toInt) rfl (by omega)) dL_law_442 ?_
  refine lv_topi (fun x2 ex2 => ?_)
  refine lcL_i (pc := 443) (k1 := cells + 50) (n1 := slots + 10390) hw (by omega) (by omega) (rn_W (As := [.int x2]) (rest := []) E (P_left hw.1) (D_left hw.2.1) (k_fault l D cI cJ cN H.size ad av tf t1 t2 _ q1 wc hC x2) (gdV q_987 q_988 q_989 q_151 q_990) hdV_X11_fault ⟨rfl, rfl⟩ ⟨(Nat.le_of_ble_eq_true rfl), (Nat.le_of_ble_eq_true rfl)⟩ ⟨(by show _ ≤ 600000; omega), (by show _ ≤ 7302250; omega)⟩ xC_b (xC_at hXC hw.2.2.1 (A_l hw)) 11 rfl rfl he1 rfl hl.1 rfl (Nat.le_of_ble_eq_true rfl) dL_law_443) (fun r3 w3 Hr3 locsr3 p3 hw3 => ?_)
  refine lv_pop (pc := 446) E.1 E.2.1 dL_law_446 rfl ?_
  refine lv_aload_n (pc := 447) E.1 E.2.1 dL_law_447 rfl (lv_at hl 1 rfl) ?_
  refine lv_aload_n (pc := 448) E.1 E.2.1 dL_law_448 rfl (lv_at hl 3 rfl) ?_
  refine lv_iload_n (pc := 449) E.1 E.2.1 dL_law_449 rfl (lv_at hl 0 rfl) ?_
  refine lv_iconst (pc := 450) (v := 1) E.1 E.2.1 dL_law_450 (by decide +kernel) ?_
  refine lv_iadd (pc := 451) E.1 E.2.1 dL_law_451 ?_
  refine lv_topi (fun v4 ev4 => ?_)
  have hv4 : v4.toInt = i.toInt + 1 := by rw [ev4]; exact addE rfl (by decide +kernel) (by omega)
  refine va_sld (pc := 452) E.1 E.2.1 hXs hbl hbA hw3.2.2.1 (inbE (a := v4.toInt) rfl (by omega)) dL_law_452 ?_
  refine lv_topi (fun x5 ex5 => ?_)
  have qx5 : x2 = x5 := by rw [ex2, ex5, ev1, ev4]
  subst qx5
  refine lcR_i (pc := 453) (k1 := cells + 50) (n1 := slots + 10390) hw3 (by omega) (by omega) (rn_W (As := [.int x2]) (rest := []) E (P_right hw3.1) (D_right hw3.2.1) (m_fault l D cI cJ Hr3.size _ q2 wm hM x2) (gdV q_1814 q_1815 q_1816 q_162 q_1817) hdV_X12_fault ⟨rfl, rfl⟩ ⟨(Nat.le_of_ble_eq_true rfl), (Nat.le_of_ble_eq_true rfl)⟩ ⟨(by show _ ≤ 600000; omega), (by show _ ≤ 7302250; omega)⟩ xT_b xT_at 12 rfl rfl he2 rfl hl.1 rfl (Nat.le_of_ble_eq_true rfl) dL_law_453) (fun r6 w6 Hr6 locsr6 p6 hw6 => ?_)
  refine lv_pop (pc := 456) E.1 E.2.1 dL_law_456 rfl ?_
  refine lv_goto (pc := 457) (tgt := 1036) E.1 E.2.1 dL_law_457 (by decide) ?_
  exact kk _ _ _ _ _ _ p3 p6 hw6 hl
set_option maxHeartbeats 4000000 in
set_option maxRecDepth 100000 in
theorem lc_nights {p : Program} {l : Launch} {e : Env} {s : State} {m : MethodId} {below : List Frame} {meth : Method} {c : Code} {H : Heap} {locs : List Loc} {cells slots : Nat} {ls : Array Slot} {D : va_G} {A : Nat → Prop} {cI cJ cN : ClassId} {ad av : Nat → Nat} {tf : Value} {t1 t2 : Nat} {b L q1 q2 : Nat} {xs : Nat → Int32} {n : NB} {wc wm : va_W} {Q : State → Prop} (E : EN p c code 4 s #[Value.ref b] RL m D cI cJ) (hXs : va_X b L xs s s.heap) (hbl : b < s.heap.size) (hbA : ¬ A b) (hXC : xC D cI cJ cN ad av tf t1 t2 A s) (hR : cells + 50 ≤ 600000 ∧ slots + 10390 ≤ 7302250) (hL : L ≤ 3072) {i : Int32} (hi : 0 ≤ i.toInt ∧ i.toInt + 6 ≤ (L : Int)) (hC : CW cI cJ cN ad n q1 wc) (hM : RW cI cJ n q2 wm) (hw : WD D A s.heap (wc ++ wm) H locs) (hl : lv_has ls 4 [(3, .int i), (2, .ref q2), (1, .ref q1), (0, .ref b)]) (kk : ∀ (n : NB) (wc wm : va_W) (H : Heap) (locs : List Loc) (ls : Array Slot), CW cI cJ cN ad n q1 wc → RW cI cJ n q2 wm → WD D A s.heap (wc ++ wm) H locs → lv_has ls 4 [(3, .int i), (2, .ref q2), (1, .ref q1), (0, .ref b)] → W p l e room_1 s m #[Value.ref b] below meth c H locs (cells + 50) (slots + 10390) Q (F0 m 1036 ls [])) : W p l e room_1 s m #[Value.ref b] below meth c H locs cells slots Q (F0 m 460 ls []) := by
  obtain ⟨fs1, he1⟩ := cw_head hC
  obtain ⟨fs2, he2⟩ := rw_head hM
  refine lv_aload_n (pc := 460) E.1 E.2.1 dL_law_460 rfl (lv_at hl 2 rfl) ?_
  refine lv_aload_n (pc := 461) E.1 E.2.1 dL_law_461 rfl (lv_at hl 3 rfl) ?_
  refine lv_iload_n (pc := 462) E.1 E.2.1 dL_law_462 rfl (lv_at hl 0 rfl) ?_
  refine lv_iconst (pc := 463) (v := 1) E.1 E.2.1 dL_law_463 (by decide +kernel) ?_
  refine lv_iadd (pc := 464) E.1 E.2.1 dL_law_464 ?_
  refine lv_topi (fun v1 ev1 => ?_)
  have hv1 : v1.toInt = i.toInt + 1 := by rw [ev1]; exact addE rfl (by decide +kernel) (by omega)
  refine va_sld (pc := 465) E.1 E.2.1 hXs hbl hbA hw.2.2.1 (inbE (a := v1.toInt) rfl (by omega)) dL_law_465 ?_
  refine lv_topi (fun x2 ex2 => ?_)
  refine lcL_i (pc := 466) (k1 := cells + 50) (n1 := slots + 10390) hw (by omega) (by omega) (rn_W (As := [.int x2]) (rest := []) E (P_left hw.1) (D_left hw.2.1) (k_nights l D cI cJ cN H.size ad av tf t1 t2 _ q1 wc hC x2) (gdV q_991 q_992 q_993 q_151 q_994) hdV_X11_nights ⟨rfl, rfl⟩ ⟨(Nat.le_of_ble_eq_true rfl), (Nat.le_of_ble_eq_true rfl)⟩ ⟨(by show _ ≤ 600000; omega), (by show _ ≤ 7302250; omega)⟩ xC_b (xC_at hXC hw.2.2.1 (A_l hw)) 11 rfl rfl he1 rfl hl.1 rfl (Nat.le_of_ble_eq_true rfl) dL_law_466) (fun r3 w3 Hr3 locsr3 p3 hw3 => ?_)
  refine lv_pop (pc := 469) E.1 E.2.1 dL_law_469 rfl ?_
  refine lv_aload_n (pc := 470) E.1 E.2.1 dL_law_470 rfl (lv_at hl 1 rfl) ?_
  refine lv_aload_n (pc := 471) E.1 E.2.1 dL_law_471 rfl (lv_at hl 3 rfl) ?_
  refine lv_iload_n (pc := 472) E.1 E.2.1 dL_law_472 rfl (lv_at hl 0 rfl) ?_
  refine lv_iconst (pc := 473) (v := 1) E.1 E.2.1 dL_law_473 (by decide +kernel) ?_
  refine lv_iadd (pc := 474) E.1 E.2.1 dL_law_474 ?_
  refine lv_topi (fun v4 ev4 => ?_)
  have hv4 : v4.toInt = i.toInt + 1 := by rw [ev4]; exact addE rfl (by decide +kernel) (by omega)
  refine va_sld (pc := 475) E.1 E.2.1 hXs hbl hbA hw3.2.2.1 (inbE (a := v4.toInt) rfl (by omega)) dL_law_475 ?_
  refine lv_topi (fun x5 ex5 => ?_)
  have qx5 : x2 = x5 := by rw [ex2, ex5, ev1, ev4]
  subst qx5
  refine lcR_i (pc := 476) (k1 := cells + 50) (n1 := slots + 10390) hw3 (by omega) (by omega) (rn_W (As := [.int x2]) (rest := []) E (P_right hw3.1) (D_right hw3.2.1) (m_nights l D cI cJ Hr3.size _ q2 wm hM x2) (gdV q_1827 q_1828 q_1829 q_162 q_1830) hdV_X12_nights ⟨rfl, rfl⟩ ⟨(Nat.le_of_ble_eq_true rfl), (Nat.le_of_ble_eq_true rfl)⟩ ⟨(by show _ ≤ 600000; omega), (by show _ ≤ 7302250; omega)⟩ xT_b xT_at 12 rfl rfl he2 rfl hl.1 rfl (Nat.le_of_ble_eq_true rfl) dL_law_476) (fun r6 w6 Hr6 locsr6 p6 hw6 => ?_)
  refine lv_pop (pc := 479) E.1 E.2.1 dL_law_479 rfl ?_
  refine lv_goto (pc := 480) (tgt := 1036) E.1 E.2.1 dL_law_480 (by decide) ?_
  exact kk _ _ _ _ _ _ p3 p6 hw6 hl
set_option maxHeartbeats 4000000 in
set_option maxRecDepth 100000 in
theorem lc_of {p : Program} {l : Launch} {e : Env} {s : State} {m : MethodId} {below : List Frame} {meth : Method} {c : Code} {H : Heap} {locs : List Loc} {cells slots : Nat} {ls : Array Slot} {D : va_G} {A : Nat → Prop} {cI cJ cN : ClassId} {ad av : Nat → Nat} {tf : Value} {t1 t2 : Nat} {b L q1 q2 : Nat} {xs : Nat → Int32} {n : NB} {wc wm : va_W} {Q : State → Prop} (E : EN p c code 4 s #[Value.ref b] RL m D cI cJ) (hXs : va_X b L xs s s.heap) (hbl : b < s.heap.size) (hbA : ¬ A b) (hXC : xC D cI cJ cN ad av tf t1 t2 A s) (hR : cells + 50 ≤ 600000 ∧ slots + 10390 ≤ 7302250) (hL : L ≤ 3072) {i : Int32} (hi : 0 ≤ i.toInt ∧ i.toInt + 6 ≤ (L : Int)) (hC : CW cI cJ cN ad n q1 wc) (hM : RW cI cJ n q2 wm) (hw : WD D A s.heap (wc ++ wm) H locs) (hl : lv_has ls 4 [(3, .int i), (2, .ref q2), (1, .ref q1), (0, .ref b)]) (kk : ∀ (n : NB) (wc wm : va_W) (H : Heap) (locs : List Loc) (ls : Array Slot), CW cI cJ cN ad n q1 wc → RW cI cJ n q2 wm → WD D A s.heap (wc ++ wm) H locs → lv_has ls 4 [(3, .int i), (2, .ref q2), (1, .ref q1), (0, .ref b)] → W p l e room_1 s m #[Value.ref b] below meth c H locs (cells + 50) (slots + 10390) Q (F0 m 1036 ls [])) : W p l e room_1 s m #[Value.ref b] below meth c H locs cells slots Q (F0 m 483 ls []) := by
  obtain ⟨fs1, he1⟩ := cw_head hC
  obtain ⟨fs2, he2⟩ := rw_head hM
  refine lv_aload_n (pc := 483) E.1 E.2.1 dL_law_483 rfl (lv_at hl 2 rfl) ?_
  refine lv_aload_n (pc := 484) E.1 E.2.1 dL_law_484 rfl (lv_at hl 3 rfl) ?_
  refine lv_iload_n (pc := 485) E.1 E.2.1 dL_law_485 rfl (lv_at hl 0 rfl) ?_
  refine lv_iconst (pc := 486) (v := 1) E.1 E.2.1 dL_law_486 (by decide +kernel) ?_
  refine lv_iadd (pc := 487) E.1 E.2.1 dL_law_487 ?_
  refine lv_topi (fun v1 ev1 => ?_)
  have hv1 : v1.toInt = i.toInt + 1 := by rw [ev1]; exact addE rfl (by decide +kernel) (by omega)
  refine va_sld (pc := 488) E.1 E.2.1 hXs hbl hbA hw.2.2.1 (inbE (a := v1.toInt) rfl (by omega)) dL_law_488 ?_
  refine lv_topi (fun x2 ex2 => ?_)
  refine lv_aload_n (pc := 489) E.1 E.2.1 dL_law_489 rfl (lv_at hl 3 rfl) ?_
  refine lv_iload_n (pc := 490) E.1 E.2.1 dL_law_490 rfl (lv_at hl 0 rfl) ?_
  refine lv_iconst (pc := 491) (v := 2) E.1 E.2.1 dL_law_491 (by decide +kernel) ?_
  refine lv_iadd (pc := 492) E.1 E.2.1 dL_law_492 ?_
  refine lv_topi (fun v3 ev3 => ?_)
  have hv3 : v3.toInt = i.toInt + 2 := by rw [ev3]; exact addE rfl (by decide +kernel) (by omega)
  refine va_sld (pc := 493) E.1 E.2.1 hXs hbl hbA hw.2.2.1 (inbE (a := v3.toInt) rfl (by omega)) dL_law_493 ?_
  refine lv_topi (fun x4 ex4 => ?_)
  refine lcL_i (pc := 494) (k1 := cells + 50) (n1 := slots + 10390) hw (by omega) (by omega) (rn_W (As := [.int x2, .int x4]) (rest := []) E (P_left hw.1) (D_left hw.2.1) (k_of l D cI cJ cN H.size ad av tf t1 t2 _ q1 wc hC x2 x4) (gdV q_1100 q_1101 q_1102 q_151 q_1103) hdV_X11_of ⟨rfl, rfl⟩ ⟨(Nat.le_of_ble_eq_true rfl), (Nat.le_of_ble_eq_true rfl)⟩ ⟨(by show _ ≤ 600000; omega), (by show _ ≤ 7302250; omega)⟩ xC_b (xC_at hXC hw.2.2.1 (A_l hw)) 11 rfl rfl he1 rfl hl.1 rfl (Nat.le_of_ble_eq_true rfl) dL_law_494) (fun r5 w5 Hr5 locsr5 p5 hw5 => ?_)
  refine lv_pop (pc := 497) E.1 E.2.1 dL_law_497 rfl ?_
  refine lv_aload_n (pc := 498) E.1 E.2.1 dL_law_498 rfl (lv_at hl 1 rfl) ?_
  refine lv_aload_n (pc := 499) E.1 E.2.1 dL_law_499 rfl (lv_at hl 3 rfl) ?_
  refine lv_iload_n (pc := 500) E.1 E.2.1 dL_law_500 rfl (lv_at hl 0 rfl) ?_
  refine lv_iconst (pc := 501) (v := 1) E.1 E.2.1 dL_law_501 (by decide +kernel) ?_
  refine lv_iadd (pc := 502) E.1 E.2.1 dL_law_502 ?_
  refine lv_topi (fun v6 ev6 => ?_)
  have hv6 : v6.toInt = i.toInt + 1 := by rw [ev6]; exact addE rfl (by decide +kernel) (by omega)
  refine va_sld (pc := 503) E.1 E.2.1 hXs hbl hbA hw5.2.2.1 (inbE (a := v6.toInt) rfl (by omega)) dL_law_503 ?_
  refine lv_topi (fun x7 ex7 => ?_)
  have qx7 : x2 = x7 := by rw [ex2, ex7, ev1, ev6]
  subst qx7
  refine lv_aload_n (pc := 504) E.1 E.2.1 dL_law_504 rfl (lv_at hl 3 rfl) ?_
  refine lv_iload_n (pc := 505) E.1 E.2.1 dL_law_505 rfl (lv_at hl 0 rfl) ?_
  refine lv_iconst (pc := 506) (v := 2) E.1 E.2.1 dL_law_506 (by decide +kernel) ?_
  refine lv_iadd (pc := 507) E.1 E.2.1 dL_law_507 ?_
  refine lv_topi (fun v8 ev8 => ?_)
  have hv8 : v8.toInt = i.toInt + 2 := by rw [ev8]; exact addE rfl (by decide +kernel) (by omega)
  refine va_sld (pc := 508) E.1 E.2.1 hXs hbl hbA hw5.2.2.1 (inbE (a := v8.toInt) rfl (by omega)) dL_law_508 ?_
  refine lv_topi (fun x9 ex9 => ?_)
  have qx9 : x4 = x9 := by rw [ex4, ex9, ev3, ev8]
  subst qx9
  refine lcR_i (pc := 509) (k1 := cells + 50) (n1 := slots + 10390) hw5 (by omega) (by omega) (rn_W (As := [.int x2, .int x4]) (rest := []) E (P_right hw5.1) (D_right hw5.2.1) (m_of l D cI cJ Hr5.size _ q2 wm hM x2 x4) (gdV q_1929 q_1930 q_1931 q_162 q_1932) hdV_X12_of ⟨rfl, rfl⟩ ⟨(Nat.le_of_ble_eq_true rfl), (Nat.le_of_ble_eq_true rfl)⟩ ⟨(by show _ ≤ 600000; omega), (by show _ ≤ 7302250; omega)⟩ xT_b xT_at 12 rfl rfl he2 rfl hl.1 rfl (Nat.le_of_ble_eq_true rfl) dL_law_509) (fun r10 w10 Hr10 locsr10 p10 hw10 => ?_)
  refine lv_pop (pc := 512) E.1 E.2.1 dL_law_512 rfl ?_
  refine lv_goto (pc := 513) (tgt := 1036) E.1 E.2.1 dL_law_513 (by decide) ?_
  exact kk _ _ _ _ _ _ p5 p10 hw10 hl
