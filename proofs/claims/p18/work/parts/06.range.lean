/-! whole numbers by their values: sums, differences, products that don't wrap; indices; branches -/
theorem addI {x y : Int32} (h : -2147483648 ≤ x.toInt + y.toInt ∧ x.toInt + y.toInt ≤ 2147483647) : (x + y).toInt = x.toInt + y.toInt := by
  rw [Int32.toInt_add]
  exact Int.bmod_eq_of_le (by omega) (by omega)
theorem subI {x y : Int32} (h : -2147483648 ≤ x.toInt - y.toInt ∧ x.toInt - y.toInt ≤ 2147483647) : (x - y).toInt = x.toInt - y.toInt := by
  rw [Int32.toInt_sub]
  exact Int.bmod_eq_of_le (by omega) (by omega)
theorem mulI {x y : Int32} (h : -2147483648 ≤ x.toInt * y.toInt ∧ x.toInt * y.toInt ≤ 2147483647) : (x * y).toInt = x.toInt * y.toInt := by
  rw [Int32.toInt_mul]
  exact Int.bmod_eq_of_le (by omega) (by omega)
theorem incI {x : Int32} {n : Int} (hn : -128 ≤ n ∧ n ≤ 127) (h : -2147483648 ≤ x.toInt + n ∧ x.toInt + n ≤ 2147483647) : (x + Int32.ofInt n).toInt = x.toInt + n := by
  have e : (Int32.ofInt n).toInt = n := by
    rw [Int32.toInt_ofInt, show Int32.size = 4294967296 from rfl]
    exact Int.bmod_eq_of_le (by omega) (by omega)
  rw [addI (by rw [e]; exact h), e]
theorem addE {x y : Int32} {a b : Int} (ha : x.toInt = a) (hb : y.toInt = b) (h : -2147483648 ≤ a + b ∧ a + b ≤ 2147483647) : (x + y).toInt = a + b := by
  subst ha; subst hb; exact addI h
theorem subE {x y : Int32} {a b : Int} (ha : x.toInt = a) (hb : y.toInt = b) (h : -2147483648 ≤ a - b ∧ a - b ≤ 2147483647) : (x - y).toInt = a - b := by
  subst ha; subst hb; exact subI h
theorem mulE {x y : Int32} {a b : Int} (ha : x.toInt = a) (hb : y.toInt = b) (h : -2147483648 ≤ a * b ∧ a * b ≤ 2147483647) : (x * y).toInt = a * b := by
  subst ha; subst hb; exact mulI h
theorem incE {x : Int32} {a n : Int} (ha : x.toInt = a) (hn : -128 ≤ n ∧ n ≤ 127) (h : -2147483648 ≤ a + n ∧ a + n ≤ 2147483647) : (x + Int32.ofInt n).toInt = a + n := by
  subst ha; exact incI hn h
theorem inbE {x : Int32} {a : Int} {n : Nat} (ha : x.toInt = a) (h : 0 ≤ a ∧ a < n) : vp_in x n := by
  subst ha; exact vp_in_iff.mpr h
theorem ltE {x y : Int32} {a b : Int} (ha : x.toInt = a) (hb : y.toInt = b) (h : x < y) : a < b := by
  subst ha; subst hb; exact f_lt h
theorem leE {x y : Int32} {a b : Int} (ha : x.toInt = a) (hb : y.toInt = b) (h : x ≤ y) : a ≤ b := by
  subst ha; subst hb; exact f_le h
theorem nltE {x y : Int32} {a b : Int} (ha : x.toInt = a) (hb : y.toInt = b) (h : ¬ x < y) : b ≤ a := by
  subst ha; subst hb; exact f_nlt h
theorem nleE {x y : Int32} {a b : Int} (ha : x.toInt = a) (hb : y.toInt = b) (h : ¬ x ≤ y) : b < a := by
  subst ha; subst hb; exact f_nle h
theorem eqE {x y : Int32} {a b : Int} (ha : x.toInt = a) (hb : y.toInt = b) (h : x = y) : a = b := by
  subst ha; subst hb; exact f_eq h
theorem neE {x y : Int32} {a b : Int} (ha : x.toInt = a) (hb : y.toInt = b) (h : ¬ x = y) : ¬ a = b := by
  subst ha; subst hb; exact fun e => h (Int32.toInt_inj.mp e)
theorem mltE {x y : Int32} {a b : Int} (ha : x.toInt = a) (hb : y.toInt = b) (h : a < b) : x < y := by
  subst ha; subst hb; exact b_lt h
theorem mleE {x y : Int32} {a b : Int} (ha : x.toInt = a) (hb : y.toInt = b) (h : a ≤ b) : x ≤ y := by
  subst ha; subst hb; exact b_le h
theorem mnltE {x y : Int32} {a b : Int} (ha : x.toInt = a) (hb : y.toInt = b) (h : b ≤ a) : ¬ x < y := by
  subst ha; subst hb; exact b_nlt h
theorem mnleE {x y : Int32} {a b : Int} (ha : x.toInt = a) (hb : y.toInt = b) (h : b < a) : ¬ x ≤ y := by
  subst ha; subst hb; exact b_nle h
theorem meqE {x y : Int32} {a b : Int} (ha : x.toInt = a) (hb : y.toInt = b) (h : a = b) : x = y := by
  subst ha; subst hb; exact Int32.toInt_inj.mp h
theorem mneE {x y : Int32} {a b : Int} (ha : x.toInt = a) (hb : y.toInt = b) (h : ¬ a = b) : ¬ x = y := by
  subst ha; subst hb; exact fun e => h (by rw [e])
theorem idxI {x : Int32} (h : 0 ≤ x.toInt) : (x.toNatClampNeg : Int) = x.toInt := by
  show ((x.toInt.toNat : Nat) : Int) = x.toInt
  omega
theorem bool_nar {v : Int32} (h : 0 ≤ v.toInt ∧ v.toInt ≤ 1) : narrow .boolean (.int v) = .int v := by
  have h0 : ¬ v < 0 := b_nlt (by have k : (0 : Int32).toInt = 0 := (by decide +kernel); omega)
  obtain ⟨j, hj, rfl⟩ := nI_of h0
  rw [nI_toInt hj] at h
  rcases (show j = 0 ∨ j = 1 by omega) with rfl | rfl
  · decide +kernel
  · decide +kernel
def allR (n : Nat) (lo hi : Int) (f : Nat → Int32) : Prop := ∀ j : Nat, j < n → lo ≤ (f j).toInt ∧ (f j).toInt ≤ hi
theorem allR_at {n : Nat} {lo hi : Int} {f : Nat → Int32} (h : allR n lo hi f) {i v : Int32} (hv : v = f i.toNatClampNeg) (hi0 : 0 ≤ i.toInt ∧ i.toInt < n) : lo ≤ v.toInt ∧ v.toInt ≤ hi := by
  rw [hv]
  have e := idxI hi0.1
  exact h _ (by omega)
theorem allR_upd {n : Nat} {lo hi : Int} {f g : Nat → Int32} {k : Nat} {x : Int32} (h : allR n lo hi f) (hg : g = upd f k x) (hx : lo ≤ x.toInt ∧ x.toInt ≤ hi) : allR n lo hi g := by
  intro j hj
  rw [hg]
  by_cases e : j = k
  · rw [e, pk_us]; exact hx
  · rw [pk_un e]; exact h j hj
section XR4
variable {p : Program} {l : Launch} {e : Env} {R : Room} {s : State} {m : MethodId} {args : Array Value} {below : List Frame} {meth : Method} {c : Code} {H : Heap} {locs : List Loc} {cells slots : Nat} {Q : State → Prop}
variable {cc : ByteArray} {pc : Nat} {ls : Array Slot} {rest : List Value} {D : va_G} {A : Nat → Prop} {a nL : Nat} {cI cJ : ClassId} {ws : va_W} {H0 : Heap} {own : String}
theorem x_iastG (E : EN p c cc nL s args own m D cI cJ) (hw : WD D A H0 ws H locs) (q0 : Nat) {n : Nat} {f : Nat → Int32} (ha : ws[q0]? = some (a, .inl (cI, n, .inl f))) {i x : Int32} (hin : vp_in i n) {wf : (Nat → Int32) → va_W} (hws : ∀ g : Nat → Int32, ws.set q0 (a, .inl (cI, n, .inl g)) = wf g) (hdg : decode cc pc = .ok (.iastore, 1))
    (kk : ∀ (g : Nat → Int32) (H1 : Heap) (locs1 : List Loc), g = upd f i.toNatClampNeg x → WD D A H0 (wf g) H1 locs1 → W p l e R s m args below meth c H1 locs1 cells slots Q (F0 m (pc + 1) ls rest)) : W p l e R s m args below meth c H locs cells slots Q (F0 m pc ls (.int x :: .int i :: .ref a :: rest)) :=
  x_iast E hw q0 ha hin (hws _) hdg (fun H1 locs1 => kk _ H1 locs1 rfl)
theorem aM (hw : WD D A H0 ws H locs) : ∀ q, va_A ws H.size q → A q := fun q h => by
  rcases h with ⟨k, e, hk⟩ | h
  · exact hw.2.1.2 k (q, e) hk
  · exact hw.2.2.2 q (Nat.le_trans hw.2.2.1.1 h)
theorem bkM {w1 : va_W} {H1 : Heap} {locs1 : List Loc} {t : State} (hw : WD D A H0 ws H locs) (ht : t.heap = H1) (hB : QW D cI cJ (va_A ws H.size) w1 t) (hS : va_S A H0 H1 locs1) : WD D A H0 w1 H1 locs1 := by
  obtain ⟨h1, -, h3⟩ := hB
  rw [ht] at h1
  exact ⟨h1, h3.weaken (fun _ _ _ h => aM hw _ h), hS, hw.2.2.2⟩
theorem rn_M {y : MethodName} {bytes : ByteArray} {maxL index n mc ms : Nat} {ret : Option FieldType} {rm : Room} {C : String} {b : Addr} {As : List Value} {Qc : Array Value → State → Outcome → State → Prop} {st : List Value} (E : EN p c cc nL s args own m D cI cJ) (hw : WD D A H0 ws H locs)
    (hM : Met l y (Cond.code y bytes maxL ret :: GW) rm (va_Pc (.ref b :: As) (PW D cI cJ H.size ws xT)) Qc mc ms (va_A ws H.size)) (hG : GoodIn GW (wsV own index C y (Cond.code y bytes maxL ret :: GW)))
    (hd : y.cls = C ∧ y.cls ≠ "java/lang/invoke/MethodHandle" ∧ y.cls ≠ "java/lang/invoke/VarHandle" ∧ (parseMethodDescriptor y.desc).map (fun d => d.parameters.length) = some n) (hrm : rm.cells = mc ∧ rm.slots = ms) (hR : rm.frames + 1 ≤ R.frames ∧ 8 + (maxL + 11) + rm.locals ≤ R.locals) (hf : cells + mc ≤ R.cells ∧ slots + ms ≤ R.slots)
    (ci : Nat) {q : vw_C} {fs : List Value} (hc : vwCl[ci]? = some q) (hq : q.1 = C) (he : ws[0]? = some (b, .inr (ci, fs)))
    (hlen : As.length = n) (hsz : ls.size = nL) (hst : st = As.reverse ++ .ref b :: rest) (hrest : (rest.map fun v => v.category).sum ≤ 8) (hdg : decode cc pc = .ok (.invokevirtual index, 3)) :
    va_Run p l e R s m args below meth c H locs cells slots mc ms (F0 m pc ls st) rest (Qc (Value.ref b :: As).toArray) (va_A ws H.size) := by
  subst hst
  obtain ⟨cell, r1, r2, r3⟩ := va_recv (q := q) E.2.2.2.2.2 hw.1 hc he
  exact va_runV ⟨E.1, E.2.1, E.2.2.1, E.2.2.2.1, E.2.2.2.2.1⟩ hM (cwV n E.2.2.2.2.1 hG rfl hrm.1 hrm.2 hd hR) ⟨pw_blind xT_b, ⟨cell, r1, r2, hq ▸ r3⟩, fun U hU hW => ⟨rfl, by rw [hU], by rw [hU]; exact hw.1, va_K.moved hW.alike E.2.2.2.2.2, hw.2.1.weaken (fun _ _ _ _ => trivial), trivial⟩⟩ rfl hlen hsz rfl (lv_room hrest) hdg hf
theorem cm_i {S : Type} {post : Int32 → S → Prop} {w1 : S → va_W} {st : List Value} {av : Array Value} (hw : WD D A H0 ws H locs)
    (hr : va_Run p l e R s m args below meth c H locs cells slots 0 0 (F0 m pc ls st) rest (va_Qi post (fun u => QW D cI cJ (va_A ws H.size) (w1 u)) (va_A ws H.size) av) (va_A ws H.size))
    (kk : ∀ (r : Int32) (u : S) (H1 : Heap) (locs1 : List Loc), post r u → WD D A H0 (w1 u) H1 locs1 → W p l e R s m args below meth c H1 locs1 cells slots Q (F0 m (pc + 3) ls (.int r :: rest))) : W p l e R s m args below meth c H locs cells slots Q (F0 m pc ls st) :=
  va_calli hr hw.2.2.1 (fun q _ h => aM hw q h) (fun q h => aM hw q h) (fun r u _ H1 locs1 ht _ hp hB _ _ hS => kk r u H1 locs1 hp (bkM hw ht hB hS))
theorem cm_l {S : Type} {post : Int64 → S → Prop} {w1 : S → va_W} {st : List Value} {av : Array Value} (hw : WD D A H0 ws H locs)
    (hr : va_Run p l e R s m args below meth c H locs cells slots 0 0 (F0 m pc ls st) rest (va_Ql post (fun u => QW D cI cJ (va_A ws H.size) (w1 u)) (va_A ws H.size) av) (va_A ws H.size))
    (kk : ∀ (r : Int64) (u : S) (H1 : Heap) (locs1 : List Loc), post r u → WD D A H0 (w1 u) H1 locs1 → W p l e R s m args below meth c H1 locs1 cells slots Q (F0 m (pc + 3) ls (.long r :: rest))) : W p l e R s m args below meth c H locs cells slots Q (F0 m pc ls st) :=
  va_calll hr hw.2.2.1 (fun q _ h => aM hw q h) (fun q h => aM hw q h) (fun r u _ H1 locs1 ht _ hp hB _ _ hS => kk r u H1 locs1 hp (bkM hw ht hB hS))
theorem cm_v {S : Type} {post : S → Prop} {w1 : S → va_W} {st : List Value} {av : Array Value} (hw : WD D A H0 ws H locs)
    (hr : va_Run p l e R s m args below meth c H locs cells slots 0 0 (F0 m pc ls st) rest (va_Qv post (fun u => QW D cI cJ (va_A ws H.size) (w1 u)) (va_A ws H.size) av) (va_A ws H.size))
    (kk : ∀ (u : S) (H1 : Heap) (locs1 : List Loc), post u → WD D A H0 (w1 u) H1 locs1 → W p l e R s m args below meth c H1 locs1 cells slots Q (F0 m (pc + 3) ls rest)) : W p l e R s m args below meth c H locs cells slots Q (F0 m pc ls st) :=
  va_callv hr hw.2.2.1 (fun q _ h => aM hw q h) (fun q h => aM hw q h) (fun u _ H1 locs1 ht _ hp hB _ _ hS => kk u H1 locs1 hp (bkM hw ht hB hS))
theorem em_v {S : Type} {post : S → Prop} {w1 : S → va_W} {mc ms : Nat} (E : EN p c cc nL s args own m D cI cJ) (hr : meth.sig.returnType = none) (hlk : meth.locks = false) (u : S) (hw : WD D A s.heap (w1 u) H locs) (hp : post u) (hmc : cells ≤ mc) (hms : slots ≤ ms) (hdg : decode cc pc = .ok (.return_, 1)) :
    W p l e R s m args below meth c H locs cells slots (MQ below (va_Qv post (fun u => QW D cI cJ A (w1 u)) A) args s mc ms A) (F0 m pc ls []) :=
  W.widen hmc hms (W.vret E.1 E.2.1 hr (fun _ ht hW => ⟨⟨u, rfl, hp, ⟨by rw [ht]; exact hw.1, va_K.moved hW.alike E.2.2.2.2.2, hw.2.1⟩⟩, hw.2.2.1.F ht⟩) hw.2.2.1.2.2 hdg hlk)
theorem em_i {S : Type} {post : Int32 → S → Prop} {w1 : S → va_W} {mc ms : Nat} {v : Int32} (E : EN p c cc nL s args own m D cI cJ) (hr : meth.sig.returnType = some .int) (hlk : meth.locks = false) (u : S) (hw : WD D A s.heap (w1 u) H locs) (hp : post v u) (hmc : cells ≤ mc) (hms : slots ≤ ms) (hdg : decode cc pc = .ok (.ireturn, 1)) :
    W p l e R s m args below meth c H locs cells slots (MQ below (va_Qi post (fun u => QW D cI cJ A (w1 u)) A) args s mc ms A) (F0 m pc ls [.int v]) :=
  W.widen hmc hms (W.iret E.1 E.2.1 hr (fun _ ht hW => ⟨⟨v, u, rfl, hp, ⟨by rw [ht]; exact hw.1, va_K.moved hW.alike E.2.2.2.2.2, hw.2.1⟩⟩, hw.2.2.1.F ht⟩) hw.2.2.1.2.2 hdg hlk)
theorem em_z {S : Type} {post : Int32 → S → Prop} {w1 : S → va_W} {mc ms : Nat} {v : Int32} (E : EN p c cc nL s args own m D cI cJ) (hr : meth.sig.returnType = some .boolean) (hlk : meth.locks = false) (u : S) (hw : WD D A s.heap (w1 u) H locs) (hp : post v u) (hv : narrow .boolean (.int v) = .int v) (hmc : cells ≤ mc) (hms : slots ≤ ms) (hdg : decode cc pc = .ok (.ireturn, 1)) :
    W p l e R s m args below meth c H locs cells slots (MQ below (va_Qi post (fun u => QW D cI cJ A (w1 u)) A) args s mc ms A) (F0 m pc ls [.int v]) :=
  W.widen hmc hms (W.zret E.1 E.2.1 hr hv (fun _ ht hW => ⟨⟨v, u, rfl, hp, ⟨by rw [ht]; exact hw.1, va_K.moved hW.alike E.2.2.2.2.2, hw.2.1⟩⟩, hw.2.2.1.F ht⟩) hw.2.2.1.2.2 hdg hlk)
theorem em_l {S : Type} {post : Int64 → S → Prop} {w1 : S → va_W} {mc ms : Nat} {v : Int64} (E : EN p c cc nL s args own m D cI cJ) (hr : meth.sig.returnType = some .long) (hlk : meth.locks = false) (u : S) (hw : WD D A s.heap (w1 u) H locs) (hp : post v u) (hmc : cells ≤ mc) (hms : slots ≤ ms) (hdg : decode cc pc = .ok (.lreturn, 1)) :
    W p l e R s m args below meth c H locs cells slots (MQ below (va_Ql post (fun u => QW D cI cJ A (w1 u)) A) args s mc ms A) (F0 m pc ls [.long v]) :=
  W.widen hmc hms (W.lret E.1 E.2.1 hr (fun _ ht hW => ⟨⟨v, u, rfl, hp, ⟨by rw [ht]; exact hw.1, va_K.moved hW.alike E.2.2.2.2.2, hw.2.1⟩⟩, hw.2.2.1.F ht⟩) hw.2.2.1.2.2 hdg hlk)
end XR4
