/-! the class: worlds by shapes; a call takes a part of its caller's world -/
section XR6
variable {p : Program} {l : Launch} {e : Env} {R : Room} {s : State} {m : MethodId} {args : Array Value} {below : List Frame} {meth : Method} {c : Code} {H : Heap} {locs : List Loc} {cells slots : Nat} {Q : State → Prop}
variable {cc : ByteArray} {pc : Nat} {ls : Array Slot} {rest : List Value} {D : va_G} {A : Nat → Prop} {a nL : Nat} {cI cJ : ClassId} {ws : va_W} {H0 : Heap} {own : String}
def restW (ws : va_W) (isR : List Nat) : va_W := isR.map (fun i => ws.getD i (0, .inr (0, [])))
theorem cq_v {S : Type} {post : S → Prop} {w1 ws' : S → va_W} {wc : va_W} {st : List Value} {av : Array Value} (hw : WD D A H0 ws H locs) (isC isR is : List Nat) (hC : isC.map (fun i => ws[i]?) = wc.map some) (hR : isR.map (fun i => ws[i]?) = (restW ws isR).map some) (hn : va_nd isR = true) (hdis : ∀ i ∈ isR, i ∉ isC) (hp : ∀ u : S, is.map (fun i => (restW ws isR ++ w1 u)[i]?) = (ws' u).map some) (hnp : va_nd is = true)
    (hr : va_Run p l e R s m args below meth c H locs cells slots 0 0 (F0 m pc ls st) rest (va_Qv post (fun u => QW D cI cJ (va_A wc H.size) (w1 u)) (va_A wc H.size) av) (va_A wc H.size))
    (kk : ∀ (u : S) (H1 : Heap) (locs1 : List Loc), post u → WD D A H0 (ws' u) H1 locs1 → W p l e R s m args below meth c H1 locs1 cells slots Q (F0 m (pc + 3) ls rest)) : W p l e R s m args below meth c H locs cells slots Q (F0 m pc ls st) :=
  cl_v (k1 := cells) (n1 := slots) hw isC isR hC hR hn hdis (Nat.le_refl _) (Nat.le_refl _) hr (fun u H1 locs1 h1 h2 => kk u H1 locs1 h1 (h2.sub is (hp u) hnp))
theorem cq_i {S : Type} {post : Int32 → S → Prop} {w1 ws' : S → va_W} {wc : va_W} {st : List Value} {av : Array Value} (hw : WD D A H0 ws H locs) (isC isR is : List Nat) (hC : isC.map (fun i => ws[i]?) = wc.map some) (hR : isR.map (fun i => ws[i]?) = (restW ws isR).map some) (hn : va_nd isR = true) (hdis : ∀ i ∈ isR, i ∉ isC) (hp : ∀ u : S, is.map (fun i => (restW ws isR ++ w1 u)[i]?) = (ws' u).map some) (hnp : va_nd is = true)
    (hr : va_Run p l e R s m args below meth c H locs cells slots 0 0 (F0 m pc ls st) rest (va_Qi post (fun u => QW D cI cJ (va_A wc H.size) (w1 u)) (va_A wc H.size) av) (va_A wc H.size))
    (kk : ∀ (r : Int32) (u : S) (H1 : Heap) (locs1 : List Loc), post r u → WD D A H0 (ws' u) H1 locs1 → W p l e R s m args below meth c H1 locs1 cells slots Q (F0 m (pc + 3) ls (.int r :: rest))) : W p l e R s m args below meth c H locs cells slots Q (F0 m pc ls st) :=
  cl_i (k1 := cells) (n1 := slots) hw isC isR hC hR hn hdis (Nat.le_refl _) (Nat.le_refl _) hr (fun r u H1 locs1 h1 h2 => kk r u H1 locs1 h1 (h2.sub is (hp u) hnp))
theorem cq_l {S : Type} {post : Int64 → S → Prop} {w1 ws' : S → va_W} {wc : va_W} {st : List Value} {av : Array Value} (hw : WD D A H0 ws H locs) (isC isR is : List Nat) (hC : isC.map (fun i => ws[i]?) = wc.map some) (hR : isR.map (fun i => ws[i]?) = (restW ws isR).map some) (hn : va_nd isR = true) (hdis : ∀ i ∈ isR, i ∉ isC) (hp : ∀ u : S, is.map (fun i => (restW ws isR ++ w1 u)[i]?) = (ws' u).map some) (hnp : va_nd is = true)
    (hr : va_Run p l e R s m args below meth c H locs cells slots 0 0 (F0 m pc ls st) rest (va_Ql post (fun u => QW D cI cJ (va_A wc H.size) (w1 u)) (va_A wc H.size) av) (va_A wc H.size))
    (kk : ∀ (r : Int64) (u : S) (H1 : Heap) (locs1 : List Loc), post r u → WD D A H0 (ws' u) H1 locs1 → W p l e R s m args below meth c H1 locs1 cells slots Q (F0 m (pc + 3) ls (.long r :: rest))) : W p l e R s m args below meth c H locs cells slots Q (F0 m pc ls st) :=
  cl_l (k1 := cells) (n1 := slots) hw isC isR hC hR hn hdis (Nat.le_refl _) (Nat.le_refl _) hr (fun r u H1 locs1 h1 h2 => kk r u H1 locs1 h1 (h2.sub is (hp u) hnp))
theorem x_copyG {index : Nat} (E : EN p c cc nL s args own m D cI cJ) (hw : WD D A H0 ws H locs) (hsz : ls.size = nL) (hlink : Cond.methodLink own index arraycopyName ∈ GW) (hnat : Cond.native arraycopyName ∈ GW) (hstat : Cond.static arraycopyName ∈ GW) (hini : Cond.initialized "java/lang/System" ∈ GW)
    (q0 q1 : Nat) {a0 n0 n1 N : Nat} {f g : Nat → Int32} (ha0 : ws[q0]? = some (a0, .inl (cI, n0, .inl f))) (ha1 : ws[q1]? = some (a, .inl (cI, n1, .inl g))) {n : Int32} (hn : ¬ n < 0) (hN : n.toNatClampNeg = N) (h4 : N ≤ n0) (h5 : N ≤ n1) {wf : (Nat → Int32) → va_W} (hws : ∀ g : Nat → Int32, ws.set q1 (a, .inl (cI, n1, .inl g)) = wf g)
    (hfr : 1 ≤ R.frames) (hlo : (rest.map fun v => v.category).sum + (nativeFrameWords "java/lang/System" "arraycopy" 5 + 11) ≤ R.locals) (hdg : decode cc pc = .ok (.invokestatic index, 3))
    (kk : ∀ (g' : Nat → Int32) (H1 : Heap) (locs1 : List Loc), (∀ j : Nat, j < N → g' j = f j) → WD D A H0 (wf g') H1 locs1 → W p l e R s m args below meth c H1 locs1 cells slots Q (F0 m (pc + 3) ls rest)) : W p l e R s m args below meth c H locs cells slots Q (F0 m pc ls (.int n :: .int 0 :: .ref a :: .int 0 :: .ref a0 :: rest)) := by
  refine va_copyi E.1 E.2.1 (by rw [E.2.2.1, hsz]) E.2.2.2.1 (E.2.2.2.2.1 _ hlink) (E.2.2.2.2.1 _ hnat) (E.2.2.2.2.1 _ hstat) (E.2.2.2.2.1 _ hini) E.2.2.2.2.2 hw.1 hw.2.1 hw.2.2.1 q0 q1 0 0 (ty := .int) ha0 ha1 rfl rfl rfl (by decide +kernel) (by decide +kernel) hn (by rw [hN]; exact (Nat.zero_add N).symm ▸ h4) (by rw [hN]; exact (Nat.zero_add N).symm ▸ h5) (fun _ _ => rfl) hfr hlo hdg (fun H1 locs1 h1 h2 h3 => kk _ H1 locs1 ?_ ⟨hws _ ▸ h1, hws _ ▸ h2, h3, hw.2.2.2⟩)
  intro j hj
  show (if (0 : Int32).toNatClampNeg ≤ j ∧ j < (0 : Int32).toNatClampNeg + n.toNatClampNeg then f ((0 : Int32).toNatClampNeg + (j - (0 : Int32).toNatClampNeg)) else g j) = f j
  have z : (0 : Int32).toNatClampNeg = 0 := by decide +kernel
  rw [if_pos (by rw [z, hN]; omega), z]
  congr 1; omega
theorem rn_S2 {y : MethodName} {bytes : ByteArray} {maxL index n mc ms : Nat} {ret : Option FieldType} {rm : Room} {As : List Value} {wc : va_W} {X : State → Prop} {Qc : Array Value → State → Outcome → State → Prop} {st : List Value} (E : EN p c cc nL s args own m D cI cJ) (hw : WD D A H0 ws H locs)
    (hM : Met l y (Cond.code y bytes maxL ret :: GW) rm (va_Pc As (PW D cI cJ H.size wc X)) Qc mc ms (va_A wc H.size)) (hcode : Cond.code y bytes maxL ret ∈ GW) (hini : Cond.initialized y.cls ∈ GW) (hlk : Cond.methodLink own index y ∈ GW) (hst0 : Cond.static y ∈ GW)
    (hd : y.cls ≠ "java/lang/invoke/MethodHandle" ∧ y.cls ≠ "java/lang/invoke/VarHandle" ∧ (parseMethodDescriptor y.desc).map (fun d => d.parameters.length) = some n) (hrm : rm.cells = mc ∧ rm.slots = ms) (hR : rm.frames + 1 ≤ R.frames ∧ 8 + (maxL + 11) + rm.locals ≤ R.locals) (hf : cells + mc ≤ R.cells ∧ slots + ms ≤ R.slots)
    (hXb : XB X) (hX : ∀ U : State, U.heap = H → s.WarmedH U.vm → X U) (isC : List Nat) (hC : isC.map (fun i => ws[i]?) = wc.map some) (hnC : va_nd isC = true)
    (hlen : As.length = n) (hsz : ls.size = nL) (hst : st = As.reverse ++ rest) (hrest : (rest.map fun v => v.category).sum ≤ 8) (hdg : decode cc pc = .ok (.invokestatic index, 3)) :
    va_Run p l e R s m args below meth c H locs cells slots mc ms (F0 m pc ls st) rest (Qc As.toArray) (va_A wc H.size) := by
  subst hst
  have hPc := hw.1.sub isC (fm_of isC wc hC)
  have hDc := hw.2.1.sub isC hnC hC
  exact va_runS ⟨E.1, E.2.1, E.2.2.1, E.2.2.2.1, E.2.2.2.2.1⟩ hM ⟨callB_of n E.2.2.2.2.1 (gdI hcode) rfl hrm.1 hrm.2 (E.2.2.2.2.1 _ hini) (E.2.2.2.2.1 _ hlk) hd hR, E.2.2.2.2.1 _ hst0⟩ ⟨pw_blind hXb, fun U hU hW => ⟨rfl, by rw [hU], by rw [hU]; exact hPc, va_K.moved hW.alike E.2.2.2.2.2, hDc.weaken (fun _ _ _ _ => trivial), hX U hU hW⟩⟩ rfl hlen hsz rfl (lv_room hrest) hdg hf
end XR6
