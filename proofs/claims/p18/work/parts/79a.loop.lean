set_option maxHeartbeats 4000000 in
set_option maxRecDepth 100000 in
theorem lw_loop {p : Program} {l : Launch} {e : Env} {s : State} {m : MethodId} {below : List Frame} {meth : Method} {c : Code} {D : va_G} {A : Nat → Prop} {cI cJ cN : ClassId} {ad av : Nat → Nat} {tf : Value} {t1 t2 : Nat} {b L q1 q2 : Nat} {xs : Nat → Int32} (E : EN p c code 4 s #[Value.ref b] RL m D cI cJ) (hXs : va_X b L xs s s.heap) (hbl : b < s.heap.size) (hbA : ¬ A b) (hXC : xC D cI cJ cN ad av tf t1 t2 A s) (hL : L ≤ 3072) (hA2 : ∀ q : Nat, A q → s.heap.size ≤ q) (hr : meth.sig.returnType = ret) (hlocks : meth.locks = false) : ∀ (k cells slots : Nat) (i : Int32) (n : NB) (wc wm : va_W) (H : Heap) (locs : List Loc) (ls : Array Slot), cells + 50 * k ≤ 600000 → slots + 10390 * k ≤ 7302250 → (0 ≤ i.toInt ∧ i.toInt ≤ 3078) → 3078 ≤ i.toInt + 6 * (k : Int) → CW cI cJ cN ad n q1 wc → RW cI cJ n q2 wm → WD D A s.heap (wc ++ wm) H locs → lv_has ls 4 [(3, .int i), (2, .ref q2), (1, .ref q1), (0, .ref b)] → W p l e room_1 s m #[Value.ref b] below meth c H locs cells slots (lw_Z below #[Value.ref b] s) (F0 m 18 ls []) := by
  intro k
  induction k with
  | zero =>
    intro cells slots i n wc wm H locs ls hc1 hc2 hi hk hC hM hw hl
    refine lv_iload_n (pc := 18) E.1 E.2.1 dL_law_18 rfl (lv_at hl 0 rfl) ?_
    refine lv_aload_n (pc := 19) E.1 E.2.1 dL_law_19 rfl (lv_at hl 3 rfl) ?_
    refine va_slen (pc := 20) E.1 E.2.1 hXs hbl hbA hw.2.2.1 dL_law_20 ?_
    refine lv_topi (fun vL eL => ?_)
    have hvL : vL.toInt = (L : Int) := by rw [eL]; exact nI_toInt (by omega)
    refine lv_bipush (pc := 21) (v := 6) E.1 E.2.1 dL_law_21 (by decide +kernel) ?_
    refine lv_isub (pc := 23) E.1 E.2.1 dL_law_23 ?_
    refine lv_topi (fun vM eM => ?_)
    have hvM : vM.toInt = vL.toInt - 6 := by rw [eM]; exact subE rfl (by decide +kernel) (by omega)
    refine lv_icmp_gt (pc := 24) (tgt := 1042) E.1 E.2.1 dL_law_24 (by decide) (fun cg => ?_) (fun cg => ?_)
    · skip
      refine lv_iconst (pc := 1042) (v := 1) E.1 E.2.1 dL_law_1042 (by decide +kernel) ?_
      refine va_forget (fun q hq => hA2 _ (hw.2.2.1.2.2 q hq)) ?_
      refine W.widen (k := 600000) (n := 7302250) (by omega) (by omega) ?_
      exact lw_ret E.1 E.2.1 hr hlocks dL_law_1043
    · skip
      have hcg := nltE (a := vM.toInt) (b := i.toInt) rfl rfl cg
      exfalso; omega
  | succ k ih =>
    intro cells slots i n wc wm H locs ls hc1 hc2 hi hk hC hM hw hl
    refine lv_iload_n (pc := 18) E.1 E.2.1 dL_law_18 rfl (lv_at hl 0 rfl) ?_
    refine lv_aload_n (pc := 19) E.1 E.2.1 dL_law_19 rfl (lv_at hl 3 rfl) ?_
    refine va_slen (pc := 20) E.1 E.2.1 hXs hbl hbA hw.2.2.1 dL_law_20 ?_
    refine lv_topi (fun vL eL => ?_)
    have hvL : vL.toInt = (L : Int) := by rw [eL]; exact nI_toInt (by omega)
    refine lv_bipush (pc := 21) (v := 6) E.1 E.2.1 dL_law_21 (by decide +kernel) ?_
    refine lv_isub (pc := 23) E.1 E.2.1 dL_law_23 ?_
    refine lv_topi (fun vM eM => ?_)
    have hvM : vM.toInt = vL.toInt - 6 := by rw [eM]; exact subE rfl (by decide +kernel) (by omega)
    refine lv_icmp_gt (pc := 24) (tgt := 1042) E.1 E.2.1 dL_law_24 (by decide) (fun cg => ?_) (fun cg => ?_)
    · skip
      refine lv_iconst (pc := 1042) (v := 1) E.1 E.2.1 dL_law_1042 (by decide +kernel) ?_
      refine va_forget (fun q hq => hA2 _ (hw.2.2.1.2.2 q hq)) ?_
      refine W.widen (k := 600000) (n := 7302250) (by omega) (by omega) ?_
      exact lw_ret E.1 E.2.1 hr hlocks dL_law_1043
    · skip
      have hcg := nltE (a := vM.toInt) (b := i.toInt) rfl rfl cg
      refine lv_aload_n (pc := 27) E.1 E.2.1 dL_law_27 rfl (lv_at hl 3 rfl) ?_
      refine lv_iload_n (pc := 28) E.1 E.2.1 dL_law_28 rfl (lv_at hl 0 rfl) ?_
      refine va_sld (pc := 29) E.1 E.2.1 hXs hbl hbA hw.2.2.1 (inbE (a := i.toInt) rfl (by omega)) dL_law_29 ?_
      refine lv_topi (fun vO _ => ?_)
      refine lv_bipush (pc := 30) (v := 31) E.1 E.2.1 dL_law_30 (by decide +kernel) ?_
      refine lv_iand (pc := 32) E.1 E.2.1 dL_law_32 ?_
      refine lv_topi (fun vA _ => ?_)
      have nx : ∀ (n : NB) (wc wm : va_W) (H : Heap) (locs : List Loc) (ls : Array Slot), CW cI cJ cN ad n q1 wc → RW cI cJ n q2 wm → WD D A s.heap (wc ++ wm) H locs → lv_has ls 4 [(3, .int i), (2, .ref q2), (1, .ref q1), (0, .ref b)] → W p l e room_1 s m #[Value.ref b] below meth c H locs (cells + 50) (slots + 10390) (lw_Z below #[Value.ref b] s) (F0 m 1036 ls []) := by
        intro n wc wm H locs ls hC hM hw hl
        obtain ⟨v, ev⟩ : ∃ z : Int32, i + Int32.ofInt (6) = z := ⟨_, rfl⟩
        have hv : v.toInt = i.toInt + (6) := by rw [← ev]; exact incE rfl (by decide) (by omega)
        refine lv_iinc (pc := 1036) (v := v) (lv' := [(3, .int v), (2, .ref q2), (1, .ref q1), (0, .ref b)]) E.1 E.2.1 dL_law_1036 hl (k := 0) rfl ev (by decide) rfl (fun ls hl => ?_)
        refine lv_goto (pc := 1039) (tgt := 18) E.1 E.2.1 dL_law_1039 (by decide) ?_
        exact ih _ _ v n wc wm H locs ls (by omega) (by omega) (by omega) (by omega) hC hM hw hl
      rcases swt (x := vA) 0 27 with hsw | ⟨kz, h1, h2, hsw⟩
      · skip
        refine lv_tableOut (pc := 33) (tgt := 1036) E.1 E.2.1 dL_law_33 hsw (by decide) ?_
        exact W.widen (k := cells + 50) (n := slots + 10390) (by omega) (by omega) (nx n wc wm H locs ls hC hM hw hl)
      · skip
        rcases (show kz = 0 ∨ kz = 1 ∨ kz = 2 ∨ kz = 3 ∨ kz = 4 ∨ kz = 5 ∨ kz = 6 ∨ kz = 7 ∨ kz = 8 ∨ kz = 9 ∨ kz = 10 ∨ kz = 11 ∨ kz = 12 ∨ kz = 13 ∨ kz = 14 ∨ kz = 15 ∨ kz = 16 ∨ kz = 17 ∨ kz = 18 ∨ kz = 19 ∨ kz = 20 ∨ kz = 21 ∨ kz = 22 ∨ kz = 23 ∨ kz = 24 ∨ kz = 25 ∨ kz = 26 ∨ kz = 27 from by omega) with rfl | rfl | rfl | rfl | rfl | rfl | rfl | rfl | rfl | rfl | rfl | rfl | rfl | rfl | rfl | rfl | rfl | rfl | rfl | rfl | rfl | rfl | rfl | rfl | rfl | rfl | rfl | rfl
        · skip
          have he : vA = 0 := Int32.toInt_inj.mp (by rw [hsw]; decide +kernel)
          refine lv_tableIn (pc := 33) (off := 127) (tgt := 160) E.1 E.2.1 dL_law_33 (by rw [he]; decide +kernel) (by rw [he]; decide +kernel) (by rw [he]; decide +kernel) (by decide) ?_
          exact lc_state E hXs hbl hbA hXC (by omega) hL (by omega) hC hM hw hl nx
        · skip
          have he : vA = 1 := Int32.toInt_inj.mp (by rw [hsw]; decide +kernel)
          refine lv_tableIn (pc := 33) (off := 150) (tgt := 183) E.1 E.2.1 dL_law_33 (by rw [he]; decide +kernel) (by rw [he]; decide +kernel) (by rw [he]; decide +kernel) (by decide) ?_
          exact lc_house E hXs hbl hbA hXC (by omega) hL (by omega) hC hM hw hl nx
        · skip
          have he : vA = 2 := Int32.toInt_inj.mp (by rw [hsw]; decide +kernel)
          refine lv_tableIn (pc := 33) (off := 193) (tgt := 226) E.1 E.2.1 dL_law_33 (by rw [he]; decide +kernel) (by rw [he]; decide +kernel) (by rw [he]; decide +kernel) (by decide) ?_
          exact lc_set E hXs hbl hbA hXC (by omega) hL (by omega) hC hM hw hl nx
        · skip
          have he : vA = 3 := Int32.toInt_inj.mp (by rw [hsw]; decide +kernel)
          refine lv_tableIn (pc := 33) (off := 236) (tgt := 269) E.1 E.2.1 dL_law_33 (by rw [he]; decide +kernel) (by rw [he]; decide +kernel) (by rw [he]; decide +kernel) (by decide) ?_
          exact lc_friends E hXs hbl hbA hXC (by omega) hL (by omega) hC hM hw hl nx
        · skip
          have he : vA = 4 := Int32.toInt_inj.mp (by rw [hsw]; decide +kernel)
          refine lv_tableIn (pc := 33) (off := 295) (tgt := 328) E.1 E.2.1 dL_law_33 (by rw [he]; decide +kernel) (by rw [he]; decide +kernel) (by rw [he]; decide +kernel) (by decide) ?_
          exact lc_feed E hXs hbl hbA hXC (by omega) hL (by omega) hC hM hw hl nx
        · skip
          have he : vA = 5 := Int32.toInt_inj.mp (by rw [hsw]; decide +kernel)
          refine lv_tableIn (pc := 33) (off := 358) (tgt := 391) E.1 E.2.1 dL_law_33 (by rw [he]; decide +kernel) (by rw [he]; decide +kernel) (by rw [he]; decide +kernel) (by decide) ?_
          exact lc_end E hXs hbl hbA hXC (by omega) hL (by omega) hC hM hw hl nx
        · skip
          have he : vA = 6 := Int32.toInt_inj.mp (by rw [hsw]; decide +kernel)
          refine lv_tableIn (pc := 33) (off := 381) (tgt := 414) E.1 E.2.1 dL_law_33 (by rw [he]; decide +kernel) (by rw [he]; decide +kernel) (by rw [he]; decide +kernel) (by decide) ?_
          exact lc_text E hXs hbl hbA hXC (by omega) hL (by omega) hC hM hw hl nx
        · skip
          have he : vA = 7 := Int32.toInt_inj.mp (by rw [hsw]; decide +kernel)
          refine lv_tableIn (pc := 33) (off := 404) (tgt := 437) E.1 E.2.1 dL_law_33 (by rw [he]; decide +kernel) (by rw [he]; decide +kernel) (by rw [he]; decide +kernel) (by decide) ?_
          exact lc_fault E hXs hbl hbA hXC (by omega) hL (by omega) hC hM hw hl nx
        · skip
          have he : vA = 8 := Int32.toInt_inj.mp (by rw [hsw]; decide +kernel)
          refine lv_tableIn (pc := 33) (off := 427) (tgt := 460) E.1 E.2.1 dL_law_33 (by rw [he]; decide +kernel) (by rw [he]; decide +kernel) (by rw [he]; decide +kernel) (by decide) ?_
          exact lc_nights E hXs hbl hbA hXC (by omega) hL (by omega) hC hM hw hl nx
        · skip
          have he : vA = 9 := Int32.toInt_inj.mp (by rw [hsw]; decide +kernel)
          refine lv_tableIn (pc := 33) (off := 450) (tgt := 483) E.1 E.2.1 dL_law_33 (by rw [he]; decide +kernel) (by rw [he]; decide +kernel) (by rw [he]; decide +kernel) (by decide) ?_
          exact lc_of E hXs hbl hbA hXC (by omega) hL (by omega) hC hM hw hl nx
        · skip
          have he : vA = 10 := Int32.toInt_inj.mp (by rw [hsw]; decide +kernel)
          refine lv_tableIn (pc := 33) (off := 483) (tgt := 516) E.1 E.2.1 dL_law_33 (by rw [he]; decide +kernel) (by rw [he]; decide +kernel) (by rw [he]; decide +kernel) (by decide) ?_
          exact lc_far E hXs hbl hbA hXC (by omega) hL (by omega) hC hM hw hl nx
        · skip
          have he : vA = 11 := Int32.toInt_inj.mp (by rw [hsw]; decide +kernel)
          refine lv_tableIn (pc := 33) (off := 516) (tgt := 549) E.1 E.2.1 dL_law_33 (by rw [he]; decide +kernel) (by rw [he]; decide +kernel) (by rw [he]; decide +kernel) (by decide) ?_
          exact lc_need E hXs hbl hbA hXC (by omega) hL (by omega) hC hM hw hl nx
        · skip
          have he : vA = 12 := Int32.toInt_inj.mp (by rw [hsw]; decide +kernel)
          refine lv_tableIn (pc := 33) (off := 549) (tgt := 582) E.1 E.2.1 dL_law_33 (by rw [he]; decide +kernel) (by rw [he]; decide +kernel) (by rw [he]; decide +kernel) (by decide) ?_
          exact lc_book E hXs hbl hbA hXC (by omega) hL (by omega) hC hM hw hl nx
        · skip
          have he : vA = 13 := Int32.toInt_inj.mp (by rw [hsw]; decide +kernel)
          refine lv_tableIn (pc := 33) (off := 582) (tgt := 615) E.1 E.2.1 dL_law_33 (by rw [he]; decide +kernel) (by rw [he]; decide +kernel) (by rw [he]; decide +kernel) (by decide) ?_
          exact lc_run E hXs hbl hbA hXC (by omega) hL (by omega) hC hM hw hl nx
        · skip
          have he : vA = 14 := Int32.toInt_inj.mp (by rw [hsw]; decide +kernel)
          refine lv_tableIn (pc := 33) (off := 615) (tgt := 648) E.1 E.2.1 dL_law_33 (by rw [he]; decide +kernel) (by rw [he]; decide +kernel) (by rw [he]; decide +kernel) (by decide) ?_
          exact lc_plan E hXs hbl hbA hXC (by omega) hL (by omega) hC hM hw hl nx
        · skip
          have he : vA = 15 := Int32.toInt_inj.mp (by rw [hsw]; decide +kernel)
          refine lv_tableIn (pc := 33) (off := 648) (tgt := 681) E.1 E.2.1 dL_law_33 (by rw [he]; decide +kernel) (by rw [he]; decide +kernel) (by rw [he]; decide +kernel) (by decide) ?_
          exact lc_mend E hXs hbl hbA hXC (by omega) hL (by omega) hC hM hw hl nx
        · skip
          have he : vA = 16 := Int32.toInt_inj.mp (by rw [hsw]; decide +kernel)
          refine lv_tableIn (pc := 33) (off := 671) (tgt := 704) E.1 E.2.1 dL_law_33 (by rw [he]; decide +kernel) (by rw [he]; decide +kernel) (by rw [he]; decide +kernel) (by decide) ?_
          exact lc_rooms E hXs hbl hbA hXC (by omega) hL (by omega) hC hM hw hl nx
        · skip
          have he : vA = 17 := Int32.toInt_inj.mp (by rw [hsw]; decide +kernel)
          refine lv_tableIn (pc := 33) (off := 694) (tgt := 727) E.1 E.2.1 dL_law_33 (by rw [he]; decide +kernel) (by rw [he]; decide +kernel) (by rw [he]; decide +kernel) (by decide) ?_
          exact lc_sale E hXs hbl hbA hXC (by omega) hL (by omega) hC hM hw hl nx
        · skip
          have he : vA = 18 := Int32.toInt_inj.mp (by rw [hsw]; decide +kernel)
          refine lv_tableIn (pc := 33) (off := 717) (tgt := 750) E.1 E.2.1 dL_law_33 (by rw [he]; decide +kernel) (by rw [he]; decide +kernel) (by rw [he]; decide +kernel) (by decide) ?_
          exact lc_liars E hXs hbl hbA hXC (by omega) hL (by omega) hC hM hw hl nx
        · skip
          have he : vA = 19 := Int32.toInt_inj.mp (by rw [hsw]; decide +kernel)
          refine lv_tableIn (pc := 33) (off := 730) (tgt := 763) E.1 E.2.1 dL_law_33 (by rw [he]; decide +kernel) (by rw [he]; decide +kernel) (by rw [he]; decide +kernel) (by decide) ?_
          exact lc_sure E hXs hbl hbA hXC (by omega) hL (by omega) hC hM hw hl nx
        · skip
          have he : vA = 20 := Int32.toInt_inj.mp (by rw [hsw]; decide +kernel)
          refine lv_tableIn (pc := 33) (off := 773) (tgt := 806) E.1 E.2.1 dL_law_33 (by rw [he]; decide +kernel) (by rw [he]; decide +kernel) (by rw [he]; decide +kernel) (by decide) ?_
          exact lc_best E hXs hbl hbA hXC (by omega) hL (by omega) hC hM hw hl nx
        · skip
          have he : vA = 21 := Int32.toInt_inj.mp (by rw [hsw]; decide +kernel)
          refine lv_tableIn (pc := 33) (off := 806) (tgt := 839) E.1 E.2.1 dL_law_33 (by rw [he]; decide +kernel) (by rw [he]; decide +kernel) (by rw [he]; decide +kernel) (by decide) ?_
          exact lc_clue E hXs hbl hbA hXC (by omega) hL (by omega) hC hM hw hl nx
        · skip
          have he : vA = 22 := Int32.toInt_inj.mp (by rw [hsw]; decide +kernel)
          refine lv_tableIn (pc := 33) (off := 839) (tgt := 872) E.1 E.2.1 dL_law_33 (by rw [he]; decide +kernel) (by rw [he]; decide +kernel) (by rw [he]; decide +kernel) (by decide) ?_
          exact lc_ways E hXs hbl hbA hXC (by omega) hL (by omega) hC hM hw hl nx
        · skip
          have he : vA = 23 := Int32.toInt_inj.mp (by rw [hsw]; decide +kernel)
          refine lv_tableIn (pc := 33) (off := 862) (tgt := 895) E.1 E.2.1 dL_law_33 (by rw [he]; decide +kernel) (by rw [he]; decide +kernel) (by rw [he]; decide +kernel) (by decide) ?_
          exact lc_been E hXs hbl hbA hXC (by omega) hL (by omega) hC hM hw hl nx
        · skip
          have he : vA = 24 := Int32.toInt_inj.mp (by rw [hsw]; decide +kernel)
          refine lv_tableIn (pc := 33) (off := 895) (tgt := 928) E.1 E.2.1 dL_law_33 (by rw [he]; decide +kernel) (by rw [he]; decide +kernel) (by rw [he]; decide +kernel) (by decide) ?_
          exact lc_ask E hXs hbl hbA hXC (by omega) hL (by omega) hC hM hw hl nx
        · skip
          have he : vA = 25 := Int32.toInt_inj.mp (by rw [hsw]; decide +kernel)
          refine lv_tableIn (pc := 33) (off := 928) (tgt := 961) E.1 E.2.1 dL_law_33 (by rw [he]; decide +kernel) (by rw [he]; decide +kernel) (by rw [he]; decide +kernel) (by decide) ?_
          exact lc_undo E hXs hbl hbA hXC (by omega) hL (by omega) hC hM hw hl nx
        · skip
          have he : vA = 26 := Int32.toInt_inj.mp (by rw [hsw]; decide +kernel)
          refine lv_tableIn (pc := 33) (off := 941) (tgt := 974) E.1 E.2.1 dL_law_33 (by rw [he]; decide +kernel) (by rw [he]; decide +kernel) (by rw [he]; decide +kernel) (by decide) ?_
          exact lc_image E hXs hbl hbA hXC (by omega) hL (by omega) hC hM hw hl nx
        · skip
          have he : vA = 27 := Int32.toInt_inj.mp (by rw [hsw]; decide +kernel)
          refine lv_tableIn (pc := 33) (off := 980) (tgt := 1013) E.1 E.2.1 dL_law_33 (by rw [he]; decide +kernel) (by rw [he]; decide +kernel) (by rw [he]; decide +kernel) (by decide) ?_
          exact lc_look E hXs hbl hbA hXC (by omega) hL (by omega) hC hM hw hl nx
