/-! the law: two worlds beside each other; a call takes one of them -/
theorem P_right {D : va_G} {cl : List vw_C} {a b : va_W} {H : Heap} (h : va_P D cl (a ++ b) H) : va_P D cl b H := fun k q hq => h (a.length + k) q (by rw [List.getElem?_append_right (by omega), Nat.add_sub_cancel_left]; exact hq)
theorem in_appR {α : Type} {a b : List α} {k : Nat} {q : α} (h : b[k]? = some q) : (a ++ b)[a.length + k]? = some q := by
  rw [List.getElem?_append_right (by omega), Nat.add_sub_cancel_left]; exact h
theorem D_right {A : Nat → Prop} {a b : va_W} (h : va_D A (a ++ b)) : va_D A b := ⟨fun i j p q hi hj e => by have := h.1 (a.length + i) (a.length + j) p q (in_appR hi) (in_appR hj) e; omega, fun k q hk => h.2 (a.length + k) q (in_appR hk)⟩
theorem P_comm {D : va_G} {cl : List vw_C} {a b : va_W} {H : Heap} (h : va_P D cl (a ++ b) H) : va_P D cl (b ++ a) H := va_P.app (P_right h) (P_left h)
theorem D_comm {A : Nat → Prop} {a b : va_W} (h : va_D A (a ++ b)) : va_D A (b ++ a) := va_D.app (D_right h) (D_left h) (fun i j x y hx hy hxy => by
  have q := h.1 (a.length + i) j x y (in_appR hx) (in_app hy) hxy
  have r := (List.getElem?_eq_some_iff.mp hy).1
  omega)
theorem rg_all (w : va_W) : (List.range w.length).map (fun i => w[i]?) = w.map some := by
  apply List.ext_getElem?
  intro k
  rw [List.getElem?_map, List.getElem?_map]
  by_cases h : k < w.length
  · rw [List.getElem?_range h, List.getElem?_eq_getElem h]
    show some (w[k]?) = some (some w[k])
    rw [List.getElem?_eq_getElem h]
  · rw [List.getElem?_eq_none (by rw [List.length_range]; omega), List.getElem?_eq_none (by omega)]
    rfl
theorem joinL {A0 : Nat → Prop} {D : va_G} {wc wm w1 : va_W} {H H1 : Heap} (hP : va_P D vwCl (wc ++ wm) H) (hD : va_D A0 (wc ++ wm)) (hk : ∀ q : Nat, q < H.size → ¬ va_A wc H.size q → H1[q]? = H[q]?) (hF : ∀ q, va_A wc H.size q → A0 q) (hP1 : va_P D vwCl w1 H1) (hD1 : va_D (va_A wc H.size) w1) : va_P D vwCl (w1 ++ wm) H1 ∧ va_D A0 (w1 ++ wm) :=
  va_joinQ (wr := []) hP hD (List.range wc.length) [] (rg_all wc) rfl rfl (fun _ h => by cases h) hk hF hP1 hD1
theorem cw_head {cI cJ cN : ClassId} {ad : Nat → Nat} {n : NB} {a : Nat} {w : va_W} (h : CW cI cJ cN ad n a w) : ∃ fs : List Value, w[0]? = some (a, .inr (11, fs)) := by
  obtain ⟨bP, bR, bK, mr, mi, mf, mg, rfl, rfl, -, -⟩ := h
  exact ⟨_, rfl⟩
theorem rw_head {cI cJ : ClassId} {n : NB} {b : Nat} {w : va_W} (h : RW cI cJ n b w) : ∃ fs : List Value, w[0]? = some (b, .inr (12, fs)) := by
  obtain ⟨mr, mi, mf, mg, rfl, -, -⟩ := h
  exact ⟨_, rfl⟩
section XR11
variable {p : Program} {l : Launch} {e : Env} {R : Room} {s : State} {m : MethodId} {args : Array Value} {below : List Frame} {meth : Method} {c : Code} {H : Heap} {locs : List Loc} {cells slots : Nat} {Q : State → Prop}
variable {cc : ByteArray} {pc : Nat} {ls : Array Slot} {rest : List Value} {D : va_G} {A : Nat → Prop} {nL : Nat} {cI cJ : ClassId} {wc wm : va_W} {own : String}
theorem A_l (hw : WD D A s.heap (wc ++ wm) H locs) : ∀ q, va_A wc H.size q → A q := fun q h => by
  rcases h with ⟨k, e, h⟩ | h
  · exact hw.2.1.2 k (q, e) (in_app h)
  · exact hw.2.2.2 q (Nat.le_trans hw.2.2.1.1 h)
theorem A_r (hw : WD D A s.heap (wc ++ wm) H locs) : ∀ q, va_A wm H.size q → A q := fun q h => by
  rcases h with ⟨k, e, h⟩ | h
  · exact hw.2.1.2 (wc.length + k) (q, e) (in_appR h)
  · exact hw.2.2.2 q (Nat.le_trans hw.2.2.1.1 h)
theorem bkL {w1 : va_W} {H1 : Heap} {locs1 : List Loc} {t : State} (hw : WD D A s.heap (wc ++ wm) H locs) (ht : t.heap = H1) (hB : QW D cI cJ (va_A wc H.size) w1 t) (hk : ∀ q : Nat, q < H.size → ¬ va_A wc H.size q → H1[q]? = H[q]?) (hS : va_S A s.heap H1 locs1) : WD D A s.heap (w1 ++ wm) H1 locs1 := by
  obtain ⟨h1, -, h3⟩ := hB
  rw [ht] at h1
  obtain ⟨a1, a2⟩ := joinL hw.1 hw.2.1 hk (A_l hw) h1 h3
  exact ⟨a1, a2, hS, hw.2.2.2⟩
theorem bkR {w1 : va_W} {H1 : Heap} {locs1 : List Loc} {t : State} (hw : WD D A s.heap (wc ++ wm) H locs) (ht : t.heap = H1) (hB : QW D cI cJ (va_A wm H.size) w1 t) (hk : ∀ q : Nat, q < H.size → ¬ va_A wm H.size q → H1[q]? = H[q]?) (hS : va_S A s.heap H1 locs1) : WD D A s.heap (wc ++ w1) H1 locs1 := by
  obtain ⟨h1, -, h3⟩ := hB
  rw [ht] at h1
  obtain ⟨a1, a2⟩ := joinL (P_comm hw.1) (D_comm hw.2.1) hk (A_r hw) h1 h3
  exact ⟨P_comm a1, D_comm a2, hS, hw.2.2.2⟩
theorem rn_W {y : MethodName} {bytes : ByteArray} {maxL index n mc ms : Nat} {ret : Option FieldType} {rm : Room} {C : String} {b : Addr} {As : List Value} {w : va_W} {X : State → Prop} {Qc : Array Value → State → Outcome → State → Prop} {st : List Value} (E : EN p c cc nL s args own m D cI cJ) (hP0 : va_P D vwCl w H) (hD0 : va_D A w)
    (hM : Met l y (Cond.code y bytes maxL ret :: GW) rm (va_Pc (.ref b :: As) (PW D cI cJ H.size w X)) Qc mc ms (va_A w H.size)) (hG : GoodIn GW (wsV own index C y (Cond.code y bytes maxL ret :: GW)))
    (hd : y.cls = C ∧ y.cls ≠ "java/lang/invoke/MethodHandle" ∧ y.cls ≠ "java/lang/invoke/VarHandle" ∧ (parseMethodDescriptor y.desc).map (fun d => d.parameters.length) = some n) (hrm : rm.cells = mc ∧ rm.slots = ms) (hR : rm.frames + 1 ≤ R.frames ∧ 8 + (maxL + 11) + rm.locals ≤ R.locals) (hf : cells + mc ≤ R.cells ∧ slots + ms ≤ R.slots)
    (hXb : XB X) (hX : ∀ U : State, U.heap = H → s.WarmedH U.vm → X U) (ci : Nat) {q : vw_C} {fs : List Value} (hc : vwCl[ci]? = some q) (hq : q.1 = C) (he : w[0]? = some (b, .inr (ci, fs)))
    (hlen : As.length = n) (hsz : ls.size = nL) (hst : st = As.reverse ++ .ref b :: rest) (hrest : (rest.map fun v => v.category).sum ≤ 8) (hdg : decode cc pc = .ok (.invokevirtual index, 3)) :
    va_Run p l e R s m args below meth c H locs cells slots mc ms (F0 m pc ls st) rest (Qc (Value.ref b :: As).toArray) (va_A w H.size) := by
  subst hst
  obtain ⟨cell, r1, r2, r3⟩ := va_recv (q := q) E.2.2.2.2.2 hP0 hc he
  exact va_runV ⟨E.1, E.2.1, E.2.2.1, E.2.2.2.1, E.2.2.2.2.1⟩ hM (cwV n E.2.2.2.2.1 hG rfl hrm.1 hrm.2 hd hR) ⟨pw_blind hXb, ⟨cell, r1, r2, hq ▸ r3⟩, fun U hU hW => ⟨rfl, by rw [hU], by rw [hU]; exact hP0, va_K.moved hW.alike E.2.2.2.2.2, hD0.weaken (fun _ _ _ _ => trivial), hX U hU hW⟩⟩ rfl hlen hsz rfl (lv_room hrest) hdg hf
theorem lcL_i {post : Int32 → va_W → Prop} {mc ms k1 n1 : Nat} {st : List Value} {av : Array Value} (hw : WD D A s.heap (wc ++ wm) H locs) (hk1 : cells + mc ≤ k1) (hn1 : slots + ms ≤ n1)
    (hr : va_Run p l e R s m args below meth c H locs cells slots mc ms (F0 m pc ls st) rest (va_Qi post (fun w => QW D cI cJ (va_A wc H.size) w) (va_A wc H.size) av) (va_A wc H.size))
    (kk : ∀ (r : Int32) (w : va_W) (H1 : Heap) (locs1 : List Loc), post r w → WD D A s.heap (w ++ wm) H1 locs1 → W p l e R s m args below meth c H1 locs1 k1 n1 Q (F0 m (pc + 3) ls (.int r :: rest))) : W p l e R s m args below meth c H locs cells slots Q (F0 m pc ls st) :=
  va_calli hr hw.2.2.1 (fun q _ h => A_l hw q h) (A_l hw) (fun r u _ H1 locs1 ht _ hp hB _ hk hS => W.widen hk1 hn1 (kk r u H1 locs1 hp (bkL hw ht hB hk hS)))
theorem lcR_i {post : Int32 → va_W → Prop} {mc ms k1 n1 : Nat} {st : List Value} {av : Array Value} (hw : WD D A s.heap (wc ++ wm) H locs) (hk1 : cells + mc ≤ k1) (hn1 : slots + ms ≤ n1)
    (hr : va_Run p l e R s m args below meth c H locs cells slots mc ms (F0 m pc ls st) rest (va_Qi post (fun w => QW D cI cJ (va_A wm H.size) w) (va_A wm H.size) av) (va_A wm H.size))
    (kk : ∀ (r : Int32) (w : va_W) (H1 : Heap) (locs1 : List Loc), post r w → WD D A s.heap (wc ++ w) H1 locs1 → W p l e R s m args below meth c H1 locs1 k1 n1 Q (F0 m (pc + 3) ls (.int r :: rest))) : W p l e R s m args below meth c H locs cells slots Q (F0 m pc ls st) :=
  va_calli hr hw.2.2.1 (fun q _ h => A_r hw q h) (A_r hw) (fun r u _ H1 locs1 ht _ hp hB _ hk hS => W.widen hk1 hn1 (kk r u H1 locs1 hp (bkR hw ht hB hk hS)))
theorem lcL_l {post : Int64 → va_W → Prop} {mc ms k1 n1 : Nat} {st : List Value} {av : Array Value} (hw : WD D A s.heap (wc ++ wm) H locs) (hk1 : cells + mc ≤ k1) (hn1 : slots + ms ≤ n1)
    (hr : va_Run p l e R s m args below meth c H locs cells slots mc ms (F0 m pc ls st) rest (va_Ql post (fun w => QW D cI cJ (va_A wc H.size) w) (va_A wc H.size) av) (va_A wc H.size))
    (kk : ∀ (r : Int64) (w : va_W) (H1 : Heap) (locs1 : List Loc), post r w → WD D A s.heap (w ++ wm) H1 locs1 → W p l e R s m args below meth c H1 locs1 k1 n1 Q (F0 m (pc + 3) ls (.long r :: rest))) : W p l e R s m args below meth c H locs cells slots Q (F0 m pc ls st) :=
  va_calll hr hw.2.2.1 (fun q _ h => A_l hw q h) (A_l hw) (fun r u _ H1 locs1 ht _ hp hB _ hk hS => W.widen hk1 hn1 (kk r u H1 locs1 hp (bkL hw ht hB hk hS)))
theorem lcR_l {post : Int64 → va_W → Prop} {mc ms k1 n1 : Nat} {st : List Value} {av : Array Value} (hw : WD D A s.heap (wc ++ wm) H locs) (hk1 : cells + mc ≤ k1) (hn1 : slots + ms ≤ n1)
    (hr : va_Run p l e R s m args below meth c H locs cells slots mc ms (F0 m pc ls st) rest (va_Ql post (fun w => QW D cI cJ (va_A wm H.size) w) (va_A wm H.size) av) (va_A wm H.size))
    (kk : ∀ (r : Int64) (w : va_W) (H1 : Heap) (locs1 : List Loc), post r w → WD D A s.heap (wc ++ w) H1 locs1 → W p l e R s m args below meth c H1 locs1 k1 n1 Q (F0 m (pc + 3) ls (.long r :: rest))) : W p l e R s m args below meth c H locs cells slots Q (F0 m pc ls st) :=
  va_calll hr hw.2.2.1 (fun q _ h => A_r hw q h) (A_r hw) (fun r u _ H1 locs1 ht _ hp hB _ hk hS => W.widen hk1 hn1 (kk r u H1 locs1 hp (bkR hw ht hB hk hS)))
end XR11
section XR12
variable {p : Program} {l : Launch} {e : Env} {R : Room} {s : State} {m : MethodId} {args : Array Value} {below : List Frame} {meth : Method} {c : Code} {H : Heap} {locs : List Loc} {cells slots : Nat} {Q : State → Prop}
variable {cc : ByteArray} {pc : Nat} {ls : Array Slot} {rest : List Value} {D : va_G} {A : Nat → Prop} {nL : Nat} {cI cJ : ClassId} {wc wm : va_W} {own : String}
theorem rn_X {y : MethodName} {bytes : ByteArray} {maxL index n mc ms : Nat} {rm : Room} {b : Addr} {As : List Value} {w : va_W} {X : State → Prop} {Qc : Array Value → State → Outcome → State → Prop} {st : List Value} (E : EN p c cc nL s args own m D cI cJ) (hP0 : va_P D vwCl w H) (hD0 : va_D A w)
    (hM : Met l y (Cond.code y bytes maxL none :: GW) rm (va_Pc (.ref b :: As) (PW D cI cJ H.size w X)) Qc mc ms (va_A w H.size)) (hcode : Cond.code y bytes maxL none ∈ GW) (hini : Cond.initialized y.cls ∈ GW) (hlk : Cond.methodLink own index y ∈ GW) (hins : Cond.instanceMethod y ∈ GW)
    (hd : y.cls ≠ "java/lang/invoke/MethodHandle" ∧ y.cls ≠ "java/lang/invoke/VarHandle" ∧ (parseMethodDescriptor y.desc).map (fun d => d.parameters.length) = some n) (hy : y.name = "<init>") (hrm : rm.cells = mc ∧ rm.slots = ms) (hR : rm.frames + 1 ≤ R.frames ∧ 8 + (maxL + 11) + rm.locals ≤ R.locals) (hf : cells + mc ≤ R.cells ∧ slots + ms ≤ R.slots)
    (hXb : XB X) (hX : ∀ U : State, U.heap = H → s.WarmedH U.vm → X U)
    (hlen : As.length = n) (hsz : ls.size = nL) (hst : st = As.reverse ++ .ref b :: rest) (hrest : (rest.map fun v => v.category).sum ≤ 8) (hdg : decode cc pc = .ok (.invokespecial index, 3)) :
    va_Run p l e R s m args below meth c H locs cells slots mc ms (F0 m pc ls st) rest (Qc (Value.ref b :: As).toArray) (va_A w H.size) := by
  subst hst
  exact va_runI ⟨E.1, E.2.1, E.2.2.1, E.2.2.2.1, E.2.2.2.2.1⟩ hM (cwI n E.2.2.2.2.1 (gdI hcode) rfl hrm.1 hrm.2 (E.2.2.2.2.1 _ hini) (E.2.2.2.2.1 _ hlk) (E.2.2.2.2.1 _ hins) hy hd hR) ⟨pw_blind hXb, fun U hU hW => ⟨rfl, by rw [hU], by rw [hU]; exact hP0, va_K.moved hW.alike E.2.2.2.2.2, hD0.weaken (fun _ _ _ _ => trivial), hX U hU hW⟩⟩ rfl hlen hsz rfl (lv_room hrest) hdg hf
theorem lcR_v {S : Type} {post : S → Prop} {w1 : S → va_W} {mc ms k1 n1 : Nat} {st : List Value} {av : Array Value} (hw : WD D A s.heap (wc ++ wm) H locs) (hk1 : cells + mc ≤ k1) (hn1 : slots + ms ≤ n1)
    (hr : va_Run p l e R s m args below meth c H locs cells slots mc ms (F0 m pc ls st) rest (va_Qv post (fun u => QW D cI cJ (va_A wm H.size) (w1 u)) (va_A wm H.size) av) (va_A wm H.size))
    (kk : ∀ (u : S) (H1 : Heap) (locs1 : List Loc), post u → WD D A s.heap (wc ++ w1 u) H1 locs1 → W p l e R s m args below meth c H1 locs1 k1 n1 Q (F0 m (pc + 3) ls rest)) : W p l e R s m args below meth c H locs cells slots Q (F0 m pc ls st) :=
  va_callv hr hw.2.2.1 (fun q _ h => A_r hw q h) (A_r hw) (fun u _ H1 locs1 ht _ hp hB _ hk hS => W.widen hk1 hn1 (kk u H1 locs1 hp (bkR hw ht hB hk hS)))
end XR12
