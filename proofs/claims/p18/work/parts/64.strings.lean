/-! texts: what the Tape's constants hold -/
def sLen : List Nat := [0, 75, 67, 16, 43, 13, 10]
def sByt : List (List Int32) := [[], [116, 117, 114, 110, 32, 119, 104, 101, 110, 32, 111, 114, 32, 97, 110, 100, 32, 110, 111, 116, 32, 104, 111, 117, 115, 101, 32, 111, 119, 101, 100, 32, 119, 97, 105, 116, 101, 100, 32, 115, 110, 111, 119, 32, 111, 105, 108, 32, 115, 101, 97, 115, 111, 110, 32, 112, 101, 111, 112, 108, 101, 32, 110, 101, 101, 100, 115, 32, 102, 97, 114, 32, 98, 105, 100], [98, 117, 114, 110, 32, 119, 104, 101, 110, 32, 111, 114, 32, 97, 110, 100, 32, 110, 111, 116, 32, 104, 111, 117, 115, 101, 32, 111, 119, 101, 100, 32, 119, 97, 105, 116, 101, 100, 32, 115, 110, 111, 119, 32, 111, 105, 108, 32, 115, 101, 97, 115, 111, 110, 32, 112, 101, 111, 112, 108, 101, 32, 110, 101, 101, 100, 115], [112, 97, 116, 104, 32, 116, 111, 32, 105, 110, 32, 117, 110, 116, 105, 108], [110, 101, 101, 100, 32, 98, 105, 114, 116, 104, 32, 114, 101, 97, 100, 32, 109, 101, 110, 100, 32, 98, 114, 105, 100, 101, 32, 97, 116, 32, 102, 114, 111, 109, 32, 116, 111, 32, 119, 111, 114, 116, 104], [103, 111, 32, 115, 116, 97, 121, 32, 97, 103, 97, 105, 110], [59, 43, 45, 42, 47, 40, 41, 60, 61, 62]]
theorem s_all : ∀ i : Nat, i < 7 → sLen.getD i 0 = (sByt.getD i []).length ∧ sLen.getD i 0 ≤ 75 := by decide +kernel
def xS (ad av : Nat → Nat) (tf : Value) (A : Nat → Prop) : State → Prop := fun U => vk_S 7 sLen sByt ad av A U U.heap ∧ va_Z "java/lang/String" "COMPACT_STRINGS" "Z" (.int 1) A U U.heap ∧ va_Z "jdk/internal/util/Preconditions" "SIOOBE_FORMATTER" "Ljava/util/function/BiFunction;" tf A U U.heap ∧ (tf = .null ∨ ∃ a : Nat, tf = .ref a)
theorem xS_b {ad av : Nat → Nat} {tf : Value} {A : Nat → Prop} : XB (xS ad av tf A) := fun a U g mk h => ⟨vk_S.moved (u := U) (U := U.calling g mk a) (Vm.Alike.refl U.vm) h.1, va_Z.moved (u := U) (U := U.calling g mk a) (Vm.Alike.refl U.vm) h.2.1, va_Z.moved (u := U) (U := U.calling g mk a) (Vm.Alike.refl U.vm) h.2.2.1, h.2.2.2⟩
theorem xS_at {ad av : Nat → Nat} {tf : Value} {A0 : Nat → Prop} {s : State} {H : Heap} {locs : List Loc} {wc : va_W} (h : xS ad av tf A0 s) (hS : va_S A0 s.heap H locs) (hF : ∀ q, va_A wc H.size q → A0 q) : ∀ U : State, U.heap = H → s.WarmedH U.vm → xS ad av tf (va_A wc H.size) U := by
  intro U hU hW
  have k : ∀ a : Nat, a < s.heap.size → ¬ A0 a → H[a]? = s.heap[a]? := hS.2.1
  unfold xS
  rw [hU]
  exact ⟨((h.1.kept k).narrow hF).moved hW.alike, ((h.2.1.kept k).narrow hF).moved hW.alike, ((h.2.2.1.kept k).narrow hF).moved hW.alike, h.2.2.2⟩
def xR (ad : Nat → Nat) : State → Prop := fun U => vk_R RX8 15 "" (ad 0) U ∧ vk_R RX8 41 "turn when or and not house owed waited snow oil season people needs far bid" (ad 1) U ∧ vk_R RX8 43 "burn when or and not house owed waited snow oil season people needs" (ad 2) U ∧ vk_R RX8 45 "path to in until" (ad 3) U ∧ vk_R RX8 47 "need birth read mend bride at from to worth" (ad 4) U ∧ vk_R RX8 49 "go stay again" (ad 5) U ∧ vk_R RX8 71 ";+-*/()<=>" (ad 6) U
theorem xR_b {ad : Nat → Nat} : XB (xR ad) := fun _ U _ _ h => ⟨vk_R.same (u := U) rfl h.1, vk_R.same (u := U) rfl h.2.1, vk_R.same (u := U) rfl h.2.2.1, vk_R.same (u := U) rfl h.2.2.2.1, vk_R.same (u := U) rfl h.2.2.2.2.1, vk_R.same (u := U) rfl h.2.2.2.2.2.1, vk_R.same (u := U) rfl h.2.2.2.2.2.2⟩
theorem xR_at {ad : Nat → Nat} {s : State} {H : Heap} (h : xR ad s) : ∀ U : State, U.heap = H → s.WarmedH U.vm → xR ad U := fun _ _ hW => ⟨vk_R.warm hW h.1, vk_R.warm hW h.2.1, vk_R.warm hW h.2.2.1, vk_R.warm hW h.2.2.2.1, vk_R.warm hW h.2.2.2.2.1, vk_R.warm hW h.2.2.2.2.2.1, vk_R.warm hW h.2.2.2.2.2.2⟩
def xT8 (ad av : Nat → Nat) (tf : Value) (A : Nat → Prop) : State → Prop := fun U => xS ad av tf A U ∧ xR ad U
theorem xT8_b {ad av : Nat → Nat} {tf : Value} {A : Nat → Prop} : XB (xT8 ad av tf A) := fun a U g mk h => ⟨xS_b a U g mk h.1, xR_b a U g mk h.2⟩
theorem xT8_at {ad av : Nat → Nat} {tf : Value} {A0 : Nat → Prop} {s : State} {H : Heap} {locs : List Loc} {wc : va_W} (h : xT8 ad av tf A0 s) (hS : va_S A0 s.heap H locs) (hF : ∀ q, va_A wc H.size q → A0 q) : ∀ U : State, U.heap = H → s.WarmedH U.vm → xT8 ad av tf (va_A wc H.size) U := fun U hU hW => ⟨xS_at h.1 hS hF U hU hW, xR_at h.2 U hU hW⟩
theorem mk_metA {l : Launch} {y : MethodName} {bytes : ByteArray} {maxL : Nat} {ret : Option FieldType} {rm : Room} {avs : List Value} {D : va_G} {cI cJ : ClassId} {sz : Nat} {WS : va_W} {X : (Nat → Prop) → State → Prop} {Qf : (Nat → Prop) → Array Value → State → Outcome → State → Prop} {mc ms : Nat}
    (hy : plainName y.cls = true) (hn : (lg_sl avs).length ≤ maxL)
    (body : ∀ (p : Program) (e : Env) (s : State) (m : MethodId) (below : List Frame) (meth : Method) (c : Code) (A : Nat → Prop) (ls : Array Slot), EN p c bytes maxL s avs.toArray y.cls m D cI cJ → meth.sig.returnType = ret → meth.locks = false → meth.name = y.name → X A s → WD D A s.heap WS s.heap [] → lv_has ls maxL (lv_args 0 avs) →
      W p l e rm s m avs.toArray below meth c s.heap [] 0 0 (MQ below (Qf A) avs.toArray s mc ms A) (F0 m 0 ls [])) :
    Met l y (Cond.code y bytes maxL ret :: GW) rm (va_Pc avs (PW D cI cJ sz WS (X (va_A WS sz)))) (Qf (va_A WS sz)) mc ms (va_A WS sz) := by
  refine Met.ofW (cc := bytes) (maxL := maxL) (ret := ret) hy rfl ?_
  intro p e s m args below meth c s₁ B hml hv
  obtain ⟨rfl, hsz, hP, hK, hD0, hX⟩ := hv
  subst hsz
  have hts := atoms_spec (ws := Cond.code y bytes maxL ret :: GW) B.pre
  rw [lg_entry_eq]
  have hl := lv_entry avs (n := maxL) hn
  generalize (lg_sl avs ++ List.replicate (maxL - (lg_sl avs).length) Slot.unset).toArray = ls at hl ⊢
  exact body p e s m below meth c _ ls ⟨B.exec, B.bytes, hml, findClass_of_methodNamed B.named, fun w h => hts w (List.mem_cons_of_mem _ h), hK⟩ B.returns B.notSynchronized (name_of_methodNamed B.named B.method).1 hX ⟨hP, hD0.self, va_S.rf, fun q h => Or.inr h⟩ hl
section XR3
variable {p : Program} {l : Launch} {e : Env} {R : Room} {s : State} {m : MethodId} {args : Array Value} {below : List Frame} {meth : Method} {c : Code} {H : Heap} {locs : List Loc} {cells slots : Nat} {Q : State → Prop}
variable {cc : ByteArray} {pc : Nat} {ls : Array Slot} {rest : List Value} {D : va_G} {A : Nat → Prop} {a nL : Nat} {cI cJ : ClassId} {ws : va_W} {own : String}
theorem x_gets {C n d ref : String} {v : Value} {index : Nat} (E : EN p c cc nL s args own m D cI cJ) (hw : WD D A s.heap ws H locs) (hZ : va_Z C n d v A s s.heap) (hlink : Cond.fieldLink own index ref n d ∈ GW) (hrf : C = ref) (hdg : decode cc pc = .ok (.getstatic index, 3))
    (kk : W p l e R s m args below meth c H locs cells slots Q (F0 m (pc + 3) ls (v :: rest))) : W p l e R s m args below meth c H locs cells slots Q (F0 m pc ls rest) :=
  va_gets E.1 E.2.1 hZ hw.2.2.1 E.2.2.2.1 (E.2.2.2.2.1 _ hlink) (fun _ h => hrf ▸ h) hdg kk
theorem x_ti {t N : Nat} {f : Nat → Value} (E : EN p c cc nL s args own m D cI cJ) (hw : WD D A s.heap ws H locs) (hT : va_T .int t N f A s s.heap) {i : Int32} (hin : vp_in i N) {v : Value} (hv : f i.toNatClampNeg = v) (hdg : decode cc pc = .ok (.iaload, 1))
    (kk : W p l e R s m args below meth c H locs cells slots Q (F0 m (pc + 1) ls (v :: rest))) : W p l e R s m args below meth c H locs cells slots Q (F0 m pc ls (.int i :: .ref t :: rest)) :=
  va_ti E.1 E.2.1 hT hw.2.2.1 hin hv hdg kk
theorem x_tlen {t N : Nat} {f : Nat → Value} (E : EN p c cc nL s args own m D cI cJ) (hw : WD D A s.heap ws H locs) (hT : va_T .int t N f A s s.heap) {v : Int32} (hv : Int32.ofNat N = v) (hdg : decode cc pc = .ok (.arraylength, 1))
    (kk : W p l e R s m args below meth c H locs cells slots Q (F0 m (pc + 1) ls (.int v :: rest))) : W p l e R s m args below meth c H locs cells slots Q (F0 m pc ls (.ref t :: rest)) :=
  va_tlen E.1 E.2.1 hT hw.2.2.1 hv hdg kk
end XR3
theorem s_len {i : Nat} (hi : i < 7) : ∃ v : Int32, Int32.ofNat (sLen.getD i 0) = v ∧ v.toInt = (sLen.getD i 0 : Int) ∧ (0 ≤ v.toInt ∧ v.toInt ≤ 75) := by
  have h := (s_all i hi).2
  have e : (Int32.ofNat (sLen.getD i 0)).toInt = (sLen.getD i 0 : Int) := nI_toInt (by omega)
  exact ⟨_, rfl, e, by rw [e]; omega, by rw [e]; omega⟩
section XR8
variable {p : Program} {l : Launch} {e : Env} {R : Room} {s : State} {m : MethodId} {args : Array Value} {below : List Frame} {meth : Method} {c : Code} {H : Heap} {locs : List Loc} {cells slots : Nat} {Q : State → Prop}
variable {cc : ByteArray} {pc : Nat} {ls : Array Slot} {rest : List Value} {D : va_G} {A : Nat → Prop} {a nL : Nat} {cI cJ : ClassId} {ws : va_W} {own : String}
theorem x_tb {t N : Nat} {f : Nat → Value} (E : EN p c cc nL s args own m D cI cJ) (hw : WD D A s.heap ws H locs) (hT : va_T .byte t N f A s s.heap) {i : Int32} (hin : vp_in i N) {v : Value} (hv : f i.toNatClampNeg = v) (hdg : decode cc pc = .ok (.baload, 1))
    (kk : W p l e R s m args below meth c H locs cells slots Q (F0 m (pc + 1) ls (v :: rest))) : W p l e R s m args below meth c H locs cells slots Q (F0 m pc ls (.int i :: .ref t :: rest)) :=
  va_tb E.1 E.2.1 hT hw.2.2.1 hin hv hdg kk
theorem x_tblen {t N : Nat} {f : Nat → Value} (E : EN p c cc nL s args own m D cI cJ) (hw : WD D A s.heap ws H locs) (hT : va_T .byte t N f A s s.heap) {v : Int32} (hv : Int32.ofNat N = v) (hdg : decode cc pc = .ok (.arraylength, 1))
    (kk : W p l e R s m args below meth c H locs cells slots Q (F0 m (pc + 1) ls (.int v :: rest))) : W p l e R s m args below meth c H locs cells slots Q (F0 m pc ls (.ref t :: rest)) :=
  va_tlen E.1 E.2.1 hT hw.2.2.1 hv hdg kk
theorem x_sf {n d ref : String} {index q : Nat} {v : Value} (E : EN p c cc nL s args own m D cI cJ) (hw : WD D A s.heap ws H locs) (hE : va_OF "java/lang/String" n d v q A s s.heap) (hlink : Cond.fieldLink own index ref n d ∈ GW) (hrf : "java/lang/String" = ref) (hdg : decode cc pc = .ok (.getfield index, 3))
    (kk : W p l e R s m args below meth c H locs cells slots Q (F0 m (pc + 3) ls (v :: rest))) : W p l e R s m args below meth c H locs cells slots Q (F0 m pc ls (.ref q :: rest)) :=
  vk_getf E.1 E.2.1 hE hw.2.2.1 E.2.2.2.1 (E.2.2.2.2.1 _ hlink) (fun _ h => hrf ▸ h) hdg kk
theorem x_lds {tx : String} {index q : Nat} (E : EN p c cc nL s args own m D cI cJ) (hZ : vk_R own index tx q s) (hdg : decode cc pc = .ok (.ldc index, 2))
    (kk : W p l e R s m args below meth c H locs cells slots Q (F0 m (pc + 2) ls (.ref q :: rest))) : W p l e R s m args below meth c H locs cells slots Q (F0 m pc ls rest) :=
  va_ldcS E.1 E.2.1 E.2.2.2.1 hZ hdg kk
theorem rn_VS {y : MethodName} {bytes : ByteArray} {maxL index n mc ms : Nat} {ret : Option FieldType} {rm : Room} {C : String} {b : Addr} {As : List Value} {wc : va_W} {X : State → Prop} {Qc : Array Value → State → Outcome → State → Prop} {st : List Value} (E : EN p c cc nL s args own m D cI cJ) (hw : WD D A s.heap ws H locs)
    (hM : Met l y (Cond.code y bytes maxL ret :: GW) rm (va_Pc (.ref b :: As) (PW D cI cJ H.size wc X)) Qc mc ms (va_A wc H.size)) (hG : GoodIn GW (wsV own index C y (Cond.code y bytes maxL ret :: GW)))
    (hd : y.cls = C ∧ y.cls ≠ "java/lang/invoke/MethodHandle" ∧ y.cls ≠ "java/lang/invoke/VarHandle" ∧ (parseMethodDescriptor y.desc).map (fun d => d.parameters.length) = some n) (hrm : rm.cells = mc ∧ rm.slots = ms) (hR : rm.frames + 1 ≤ R.frames ∧ 8 + (maxL + 11) + rm.locals ≤ R.locals) (hf : cells + mc ≤ R.cells ∧ slots + ms ≤ R.slots)
    (hXb : XB X) (hX : ∀ U : State, U.heap = H → s.WarmedH U.vm → X U) {N i : Nat} {len : List Nat} {byt : List (List Int32)} {adK adV : Nat → Nat} (hSt : vk_S N len byt adK adV A s s.heap) (hi : i < N) (hb : b = adK i) (hq : C = "java/lang/String") (isC : List Nat) (hC : isC.map (fun i => ws[i]?) = wc.map some) (hnC : va_nd isC = true)
    (hlen : As.length = n) (hsz : ls.size = nL) (hst : st = As.reverse ++ .ref b :: rest) (hrest : (rest.map fun v => v.category).sum ≤ 8) (hdg : decode cc pc = .ok (.invokevirtual index, 3)) :
    va_Run p l e R s m args below meth c H locs cells slots mc ms (F0 m pc ls st) rest (Qc (Value.ref b :: As).toArray) (va_A wc H.size) := by
  subst hst
  have hPc := hw.1.sub isC (fm_of isC wc hC)
  have hDc := hw.2.1.sub isC hnC hC
  obtain ⟨cell, r1, r2, r3⟩ := vk_recv hSt hi hw.2.2.1
  rw [← hb] at r1
  exact va_runV ⟨E.1, E.2.1, E.2.2.1, E.2.2.2.1, E.2.2.2.2.1⟩ hM (cwV n E.2.2.2.2.1 hG rfl hrm.1 hrm.2 hd hR) ⟨pw_blind hXb, ⟨cell, r1, r2, hq.symm ▸ r3⟩, fun U hU hW => ⟨rfl, by rw [hU], by rw [hU]; exact hPc, va_K.moved hW.alike E.2.2.2.2.2, hDc.weaken (fun _ _ _ _ => trivial), hX U hU hW⟩⟩ rfl hlen hsz rfl (lv_room hrest) hdg hf
theorem em_t {S : Type} {post : Int32 → S → Prop} {w1 : S → va_W} {mc ms : Nat} {v : Int32} {ty : FieldType} (E : EN p c cc nL s args own m D cI cJ) (hr : meth.sig.returnType = some ty) (hlk : meth.locks = false) (u : S) (hw : WD D A s.heap (w1 u) H locs) (hp : post v u) (hv : narrow ty (.int v) = .int v) (hmc : cells ≤ mc) (hms : slots ≤ ms) (hdg : decode cc pc = .ok (.ireturn, 1)) :
    W p l e R s m args below meth c H locs cells slots (MQ below (va_Qi post (fun u => QW D cI cJ A (w1 u)) A) args s mc ms A) (F0 m pc ls [.int v]) :=
  W.widen hmc hms (W.zret E.1 E.2.1 hr hv (fun _ ht hW => ⟨⟨v, u, rfl, hp, ⟨by rw [ht]; exact hw.1, va_K.moved hW.alike E.2.2.2.2.2, hw.2.1⟩⟩, hw.2.2.1.F ht⟩) hw.2.2.1.2.2 hdg hlk)
end XR8
