/-! words: the good ones among the tables'; the environment of a walk; worlds; an instruction a row -/
def GW : List Cond := lw_tbl.filter goodWord
theorem inG {w : Cond} (i : Nat) (h : lw_tbl[i]? = some w) (hg : goodWord w = true) : w ∈ GW := List.mem_filter.mpr ⟨List.mem_of_getElem? h, hg⟩
theorem inGs (ws : List Cond) (ps : List Nat) (hp : ws = ps.filterMap (fun i => lw_tbl[i]?)) (h : ws.all goodWord = true) : ∀ w ∈ ws, w ∈ GW := by
  intro w hw
  have h1 := List.all_eq_true.mp h w hw
  rw [hp] at hw
  obtain ⟨i, -, hi⟩ := List.mem_filterMap.mp hw
  exact List.mem_filter.mpr ⟨List.mem_of_getElem? hi, h1⟩
theorem gwOK {w : Cond} (h : w ∈ GW) : (w.onTables && w.keeps) = true ∨ ∃ ty, w = .arrayClass ty := good_of_word (List.mem_filter.mp h).2
theorem gdI {w : Cond} (h : w ∈ GW) : GoodIn GW (w :: GW) := fun v hv => by
  rcases List.mem_cons.mp hv with rfl | hv
  · exact ⟨h, gwOK h⟩
  · exact ⟨hv, gwOK hv⟩
theorem gdV {own C : String} {idx : Nat} {y : MethodName} {w : Cond} (h1 : Cond.methodLink own idx y ∈ GW) (h2 : Cond.instanceMethod y ∈ GW) (h3 : Cond.selects C y y ∈ GW) (h4 : Cond.initialized C ∈ GW) (h : w ∈ GW) : GoodIn GW (wsV own idx C y (w :: GW)) := fun v hv => by
  unfold wsV at hv
  rcases List.mem_append.mp hv with hv | hv
  · simp only [List.mem_cons, List.not_mem_nil, or_false] at hv
    rcases hv with rfl | rfl | rfl | rfl
    · exact ⟨h1, gwOK h1⟩
    · exact ⟨h2, gwOK h2⟩
    · exact ⟨h3, gwOK h3⟩
    · exact ⟨h4, gwOK h4⟩
  · exact gdI h v hv
theorem gdS {own : String} {idx : Nat} {y : MethodName} {w : Cond} (h1 : Cond.methodLink own idx y ∈ GW) (h2 : Cond.static y ∈ GW) (h4 : Cond.initialized own ∈ GW) (h : w ∈ GW) : GoodIn GW (wsS own idx y (w :: GW)) := fun v hv => by
  unfold wsS at hv
  rcases List.mem_append.mp hv with hv | hv
  · simp only [List.mem_cons, List.not_mem_nil, or_false] at hv
    rcases hv with rfl | rfl | rfl
    · exact ⟨h1, gwOK h1⟩
    · exact ⟨h2, gwOK h2⟩
    · exact ⟨h4, gwOK h4⟩
  · exact gdI h v hv
def EN (p : Program) (c : Code) (cc : ByteArray) (nL : Nat) (s : State) (args : Array Value) (own : String) (m : MethodId) (D : va_G) (cI cJ : ClassId) : Prop :=
  p.tables.exec = Jvm.exec ∧ c.code = cc ∧ c.maxLocals = nL ∧ s.vm.findClass own = some m.cls ∧ (∀ w ∈ GW, w.before args s = true) ∧ va_K D vwCl [(cI, .int), (cJ, .long)] s
def WD (D : va_G) (A : Nat → Prop) (H0 : Heap) (ws : va_W) (H : Heap) (locs : List Loc) : Prop := va_P D vwCl ws H ∧ va_D A ws ∧ va_S A H0 H locs ∧ ∀ q : Nat, H0.size ≤ q → A q
def PW (D : va_G) (cI cJ : ClassId) (sz : Nat) (ws : va_W) (X : State → Prop) (U : State) : Prop := U.heap.size = sz ∧ va_P D vwCl ws U.heap ∧ va_K D vwCl [(cI, .int), (cJ, .long)] U ∧ va_D (fun _ => True) ws ∧ X U
def QW (D : va_G) (cI cJ : ClassId) (A : Nat → Prop) (ws : va_W) (t : State) : Prop := va_P D vwCl ws t.heap ∧ va_K D vwCl [(cI, .int), (cJ, .long)] t ∧ va_D A ws
def XB (X : State → Prop) : Prop := ∀ (a : Array Value) (U : State) (g : JFrame) (mk : MethodId), X U → X (U.calling g mk a)
def xT : State → Prop := fun _ => True
theorem xT_b : XB xT := fun _ _ _ _ _ => trivial
theorem xT_at {s : State} {H : Heap} : ∀ U : State, U.heap = H → s.WarmedH U.vm → xT U := fun _ _ _ => trivial
theorem fm_of {α β : Type} {f : α → Option β} : ∀ (is : List α) (w : List β), is.map f = w.map some → is.filterMap f = w
  | [], [], _ => rfl
  | [], _ :: _, h => by simp at h
  | _ :: _, [], h => by simp at h
  | i :: is, x :: w, h => by
    simp only [List.map_cons, List.cons.injEq] at h
    rw [List.filterMap_cons, h.1, fm_of is w h.2]
theorem WD.sub {D : va_G} {A : Nat → Prop} {H0 H : Heap} {ws ws' : va_W} {locs : List Loc} (hw : WD D A H0 ws H locs) (is : List Nat) (hs : is.map (fun i => ws[i]?) = ws'.map some) (hn : va_nd is = true) : WD D A H0 ws' H locs :=
  ⟨hw.1.sub is (fm_of is ws' hs), hw.2.1.sub is hn hs, hw.2.2.1, hw.2.2.2⟩
theorem pw_blind {av : List Value} {D : va_G} {cI cJ : ClassId} {sz : Nat} {ws : va_W} {X : State → Prop} (hX : XB X) : FrameBlind (va_Pc av (PW D cI cJ sz ws X)) := fun a U g mk q => by
  obtain ⟨q0, q1, qP, qK, qD, qX⟩ := q
  exact ⟨q0, q1, qP, va_K.moved (u := U) (U := U.calling g mk a) (Vm.Alike.refl U.vm) qK, qD, hX a U g mk qX⟩
theorem mk_met {l : Launch} {y : MethodName} {bytes : ByteArray} {maxL : Nat} {ret : Option FieldType} {rm : Room} {avs : List Value} {D : va_G} {cI cJ : ClassId} {sz : Nat} {WS : va_W} {X : State → Prop} {Qf : (Nat → Prop) → Array Value → State → Outcome → State → Prop} {mc ms : Nat}
    (hy : plainName y.cls = true) (hn : (lg_sl avs).length ≤ maxL)
    (body : ∀ (p : Program) (e : Env) (s : State) (m : MethodId) (below : List Frame) (meth : Method) (c : Code) (A : Nat → Prop) (ls : Array Slot), EN p c bytes maxL s avs.toArray y.cls m D cI cJ → meth.sig.returnType = ret → meth.locks = false → meth.name = y.name → X s → WD D A s.heap WS s.heap [] → lv_has ls maxL (lv_args 0 avs) →
      W p l e rm s m avs.toArray below meth c s.heap [] 0 0 (MQ below (Qf A) avs.toArray s mc ms A) (F0 m 0 ls [])) :
    Met l y (Cond.code y bytes maxL ret :: GW) rm (va_Pc avs (PW D cI cJ sz WS X)) (Qf (va_A WS sz)) mc ms (va_A WS sz) := by
  refine Met.ofW (cc := bytes) (maxL := maxL) (ret := ret) hy rfl ?_
  intro p e s m args below meth c s₁ B hml hv
  obtain ⟨rfl, hsz, hP, hK, hD0, hX⟩ := hv
  subst hsz
  have hts := atoms_spec (ws := Cond.code y bytes maxL ret :: GW) B.pre
  rw [lg_entry_eq]
  have hl := lv_entry avs (n := maxL) hn
  generalize (lg_sl avs ++ List.replicate (maxL - (lg_sl avs).length) Slot.unset).toArray = ls at hl ⊢
  exact body p e s m below meth c _ ls ⟨B.exec, B.bytes, hml, findClass_of_methodNamed B.named, fun w h => hts w (List.mem_cons_of_mem _ h), hK⟩ B.returns B.notSynchronized (name_of_methodNamed B.named B.method).1 hX ⟨hP, hD0.self, va_S.rf, fun q h => Or.inr h⟩ hl
section XR
variable {p : Program} {l : Launch} {e : Env} {R : Room} {s : State} {m : MethodId} {args : Array Value} {below : List Frame} {meth : Method} {c : Code} {H : Heap} {locs : List Loc} {cells slots : Nat} {Q : State → Prop}
variable {cc : ByteArray} {pc : Nat} {ls : Array Slot} {rest : List Value} {D : va_G} {A : Nat → Prop} {a nL : Nat} {cI cJ : ClassId} {ws : va_W} {H0 : Heap} {own : String}
theorem tI {x y : Int32} (h : x = y) (k : W p l e R s m args below meth c H locs cells slots Q (F0 m pc ls (.int y :: rest))) : W p l e R s m args below meth c H locs cells slots Q (F0 m pc ls (.int x :: rest)) := h ▸ k
theorem x_get {ref C : String} {T : u_T} {N ci index : Nat} (E : EN p c cc nL s args own m D cI cJ) (hw : WD D A H0 ws H locs) (hin : ∀ w ∈ u_ws C T N, w ∈ GW) (q0 k : Nat) {fs : List Value} (hlink : Cond.fieldLink own index ref (T k).2.1 (T k).2.2.1 ∈ GW) {v : Value} (he : ws[q0]? = some (a, .inr (ci, fs))) (hc : vwCl[ci]? = some (C, T, N)) (hk : k < N) (hrf : (T k).1 = ref) (hv : fs[k]? = some v) (hdg : decode cc pc = .ok (.getfield index, 3))
    (kk : W p l e R s m args below meth c H locs cells slots Q (F0 m (pc + 3) ls (v :: rest))) : W p l e R s m args below meth c H locs cells slots Q (F0 m pc ls (.ref a :: rest)) :=
  va_get E.1 E.2.1 E.2.2.2.2.1 hin E.2.2.2.1 E.2.2.2.2.2 hw.1 q0 he hc k hk (E.2.2.2.2.1 _ hlink) (fun _ h => hrf ▸ h) hv hdg kk
theorem x_put {ref C : String} {T : u_T} {N ci index : Nat} (E : EN p c cc nL s args own m D cI cJ) (hw : WD D A H0 ws H locs) (hin : ∀ w ∈ u_ws C T N, w ∈ GW) {ty0 : Nat → FieldType} (hty : ∀ k, k < N → parseFieldDescriptor (T k).2.2.1 = some (ty0 k)) (hnm : ∀ a, a < N → ∀ b, b < N → a ≠ b → (T a).2.1 ≠ (T b).2.1) (q0 k : Nat) {fs : List Value} (hlink : Cond.fieldLink own index ref (T k).2.1 (T k).2.2.1 ∈ GW) {v : Value} (he : ws[q0]? = some (a, .inr (ci, fs))) (hc : vwCl[ci]? = some (C, T, N)) (hk : k < N) (hrf : (T k).1 = ref) (hfin : (T k).2.2.2 = false) (hn : narrow (ty0 k) v = v) (hfit : fits (ty0 k) v = true) (hl : k < fs.length) {ws' : va_W} (hws : ws.set q0 (a, .inr (ci, fs.set k v)) = ws') (hdg : decode cc pc = .ok (.putfield index, 3))
    (kk : ∀ (H1 : Heap) (locs1 : List Loc), WD D A H0 ws' H1 locs1 → W p l e R s m args below meth c H1 locs1 cells slots Q (F0 m (pc + 3) ls rest)) : W p l e R s m args below meth c H locs cells slots Q (F0 m pc ls (v :: .ref a :: rest)) :=
  va_put E.1 E.2.1 E.2.2.2.2.1 hin ty0 hty hnm E.2.2.2.1 E.2.2.2.2.2 hw.1 hw.2.1 hw.2.2.1 q0 he hc k hk (E.2.2.2.2.1 _ hlink) (fun _ h => hrf ▸ h) hfin (hty k hk) hn hfit hl hdg (fun H1 locs1 h1 h2 h3 => kk H1 locs1 ⟨hws ▸ h1, hws ▸ h2, h3, hw.2.2.2⟩)
theorem x_putF {ref C : String} {T : u_T} {N ci index : Nat} (E : EN p c cc nL s args own m D cI cJ) (hw : WD D A H0 ws H locs) (hini : meth.name = "<init>") (hin : ∀ w ∈ u_ws C T N, w ∈ GW) {ty0 : Nat → FieldType} (hty : ∀ k, k < N → parseFieldDescriptor (T k).2.2.1 = some (ty0 k)) (hnm : ∀ a, a < N → ∀ b, b < N → a ≠ b → (T a).2.1 ≠ (T b).2.1) (q0 k : Nat) {fs : List Value} (hlink : Cond.fieldLink own index ref (T k).2.1 (T k).2.2.1 ∈ GW) {v : Value} (he : ws[q0]? = some (a, .inr (ci, fs))) (hc : vwCl[ci]? = some (C, T, N)) (hk : k < N) (hrf : (T k).1 = ref) (hfin : (T k).2.2.2 = true) (hdecl : (T k).1 = own) (hn : narrow (ty0 k) v = v) (hfit : fits (ty0 k) v = true) (hl : k < fs.length) {ws' : va_W} (hws : ws.set q0 (a, .inr (ci, fs.set k v)) = ws') (hdg : decode cc pc = .ok (.putfield index, 3))
    (kk : ∀ (H1 : Heap) (locs1 : List Loc), WD D A H0 ws' H1 locs1 → W p l e R s m args below meth c H1 locs1 cells slots Q (F0 m (pc + 3) ls rest)) : W p l e R s m args below meth c H locs cells slots Q (F0 m pc ls (v :: .ref a :: rest)) :=
  va_putF E.1 E.2.1 E.2.2.2.2.1 hin ty0 hty hnm E.2.2.2.1 E.2.2.2.2.2 hw.1 hw.2.1 hw.2.2.1 q0 he hc k hk (E.2.2.2.2.1 _ hlink) (fun _ h => hrf ▸ h) hfin hini hdecl (hty k hk) hn hfit hl hdg (fun H1 locs1 h1 h2 h3 => kk H1 locs1 ⟨hws ▸ h1, hws ▸ h2, h3, hw.2.2.2⟩)
theorem x_iald (E : EN p c cc nL s args own m D cI cJ) (hw : WD D A H0 ws H locs) (q0 : Nat) {n : Nat} {f : Nat → Int32} (ha : ws[q0]? = some (a, .inl (cI, n, .inl f))) {i : Int32} (hin : vp_in i n) (hdg : decode cc pc = .ok (.iaload, 1))
    (kk : W p l e R s m args below meth c H locs cells slots Q (F0 m (pc + 1) ls (.int (f i.toNatClampNeg) :: rest))) : W p l e R s m args below meth c H locs cells slots Q (F0 m pc ls (.int i :: .ref a :: rest)) :=
  va_iald E.1 E.2.1 E.2.2.2.2.2 hw.1 q0 0 ha rfl hin hdg kk
theorem x_iast (E : EN p c cc nL s args own m D cI cJ) (hw : WD D A H0 ws H locs) (q0 : Nat) {n : Nat} {f : Nat → Int32} (ha : ws[q0]? = some (a, .inl (cI, n, .inl f))) {i x : Int32} (hin : vp_in i n) {ws' : va_W} (hws : ws.set q0 (a, .inl (cI, n, .inl (upd f i.toNatClampNeg x))) = ws') (hdg : decode cc pc = .ok (.iastore, 1))
    (kk : ∀ (H1 : Heap) (locs1 : List Loc), WD D A H0 ws' H1 locs1 → W p l e R s m args below meth c H1 locs1 cells slots Q (F0 m (pc + 1) ls rest)) : W p l e R s m args below meth c H locs cells slots Q (F0 m pc ls (.int x :: .int i :: .ref a :: rest)) :=
  va_iast E.1 E.2.1 E.2.2.2.2.2 hw.1 hw.2.1 hw.2.2.1 q0 0 ha rfl hin hdg (fun H1 locs1 h1 h2 h3 => kk H1 locs1 ⟨hws ▸ h1, hws ▸ h2, h3, hw.2.2.2⟩)
theorem x_iastO (E : EN p c cc nL s args own m D cI cJ) (hw : WD D A H0 ws H locs) (q0 : Nat) {n : Nat} {f : Nat → Int32} (ha : ws[q0]? = some (a, .inl (cI, n, .inl f))) {i x : Int32} (hin : vp_in i n) {wf : (Nat → Int32) → va_W} (hws : ∀ g : Nat → Int32, ws.set q0 (a, .inl (cI, n, .inl g)) = wf g) (hdg : decode cc pc = .ok (.iastore, 1))
    (kk : ∀ (g : Nat → Int32) (H1 : Heap) (locs1 : List Loc), WD D A H0 (wf g) H1 locs1 → W p l e R s m args below meth c H1 locs1 cells slots Q (F0 m (pc + 1) ls rest)) : W p l e R s m args below meth c H locs cells slots Q (F0 m pc ls (.int x :: .int i :: .ref a :: rest)) :=
  x_iast E hw q0 ha hin (hws _) hdg (kk _)
theorem x_newI (E : EN p c cc nL s args own m D cI cJ) (hw : WD D A H0 ws H locs) (harr : Cond.arrayClass .int ∈ GW) {n : Int32} {N' k1 n1 : Nat} (hn : ¬ n < 0) (hN : n.toNatClampNeg = N') (hby : N' * componentBytes .int ≤ 536870912) (hcl : cells + 1 ≤ R.cells) (hsl : slots + N' ≤ R.slots) (hk1 : cells + 1 ≤ k1) (hn1 : slots + N' ≤ n1) (hdg : decode cc pc = .ok (.newarray .int, 2))
    (kk : ∀ (q : Nat) (H1 : Heap), WD D A H0 (ws ++ [(q, .inl (cI, N', .inl (fun _ => 0)))]) H1 locs → W p l e R s m args below meth c H1 locs k1 n1 Q (F0 m (pc + 2) ls (.ref q :: rest))) : W p l e R s m args below meth c H locs cells slots Q (F0 m pc ls (.int n :: rest)) := by
  refine va_newa (atype := .int) (ty := .int) (a0 := (N', .inl (fun _ => 0))) E.1 E.2.1 (E.2.2.2.2.1 _ harr) rfl E.2.2.2.2.2 hw.1 hw.2.1 hw.2.2.1 hw.2.2.2 (fun _ => rfl) hn hN hby hcl hsl hdg (fun q cA H1 hK h1 h2 h3 => ?_)
  have e1 : s.vm.findClass ("[" ++ (FieldType.int).toString) = some cA := (hK.2 2 (cA, .int) rfl).2
  have e2 : s.vm.findClass ("[" ++ (FieldType.int).toString) = some cI := (E.2.2.2.2.2.2 0 (cI, .int) rfl).2
  have e3 : cA = cI := Option.some.inj (e1.symm.trans e2)
  subst e3
  exact W.widen hk1 hn1 (kk q H1 ⟨h1, h2, h3, hw.2.2.2⟩)
theorem x_newJ (E : EN p c cc nL s args own m D cI cJ) (hw : WD D A H0 ws H locs) (harr : Cond.arrayClass .long ∈ GW) {n : Int32} {N' k1 n1 : Nat} (hn : ¬ n < 0) (hN : n.toNatClampNeg = N') (hby : N' * componentBytes .long ≤ 536870912) (hcl : cells + 1 ≤ R.cells) (hsl : slots + N' ≤ R.slots) (hk1 : cells + 1 ≤ k1) (hn1 : slots + N' ≤ n1) (hdg : decode cc pc = .ok (.newarray .long, 2))
    (kk : ∀ (q : Nat) (H1 : Heap), WD D A H0 (ws ++ [(q, .inl (cJ, N', .inr (.inl (fun _ => 0))))]) H1 locs → W p l e R s m args below meth c H1 locs k1 n1 Q (F0 m (pc + 2) ls (.ref q :: rest))) : W p l e R s m args below meth c H locs cells slots Q (F0 m pc ls (.int n :: rest)) := by
  refine va_newa (atype := .long) (ty := .long) (a0 := (N', .inr (.inl (fun _ => 0)))) E.1 E.2.1 (E.2.2.2.2.1 _ harr) rfl E.2.2.2.2.2 hw.1 hw.2.1 hw.2.2.1 hw.2.2.2 (fun _ => rfl) hn hN hby hcl hsl hdg (fun q cA H1 hK h1 h2 h3 => ?_)
  have e1 : s.vm.findClass ("[" ++ (FieldType.long).toString) = some cA := (hK.2 2 (cA, .long) rfl).2
  have e2 : s.vm.findClass ("[" ++ (FieldType.long).toString) = some cJ := (E.2.2.2.2.2.2 1 (cJ, .long) rfl).2
  have e3 : cA = cJ := Option.some.inj (e1.symm.trans e2)
  subst e3
  exact W.widen hk1 hn1 (kk q H1 ⟨h1, h2, h3, hw.2.2.2⟩)
theorem x_new {C : String} {T : u_T} {N ci index k1 n1 : Nat} (E : EN p c cc nL s args own m D cI cJ) (hw : WD D A H0 ws H locs) (hin : ∀ w ∈ u_ws C T N, w ∈ GW) {ty0 : Nat → FieldType} (hty : ∀ k, k < N → parseFieldDescriptor (T k).2.2.1 = some (ty0 k)) (hcl : Cond.classLink own index C ∈ GW) (hinst : Cond.instantiable C N ∈ GW) (hini : Cond.initialized C ∈ GW) (hc : vwCl[ci]? = some (C, T, N)) {fs : List Value} (hfs : ∀ j, j < N → defaultValue (ty0 j) = vp_V fs j) (hcc : cells + 1 ≤ R.cells) (hss : slots + N ≤ R.slots) (hk1 : cells + 1 ≤ k1) (hn1 : slots + N ≤ n1) (hdg : decode cc pc = .ok (.new index, 3))
    (kk : ∀ (q : Nat) (H1 : Heap), WD D A H0 (ws ++ [(q, .inr (ci, fs))]) H1 locs → W p l e R s m args below meth c H1 locs k1 n1 Q (F0 m (pc + 3) ls (.ref q :: rest))) : W p l e R s m args below meth c H locs cells slots Q (F0 m pc ls rest) :=
  va_new E.1 E.2.1 E.2.2.2.2.1 hin ty0 hty E.2.2.2.1 (E.2.2.2.2.1 _ hcl) (E.2.2.2.2.1 _ hinst) (E.2.2.2.2.1 _ hini) E.2.2.2.2.2 hw.1 hw.2.1 hw.2.2.1 hw.2.2.2 hc hfs hcc hss hdg (fun q H1 h1 h2 h3 => W.widen hk1 hn1 (kk q H1 ⟨h1, h2, h3, hw.2.2.2⟩))
theorem x_obj {idx : Nat} (E : EN p c cc nL s args own m D cI cJ) (hlink : Cond.methodLink own idx Lib.objectInit ∈ GW) (hinst : Cond.instanceMethod Lib.objectInit ∈ GW) (hcode : Cond.code Lib.objectInit ⟨#[0xb1]⟩ 1 none ∈ GW) (hsz : ls.size = nL) (hfr : 1 ≤ R.frames) (hlo : (rest.map fun v => v.category).sum + 12 ≤ R.locals) (hdg : decode cc pc = .ok (.invokespecial idx, 3))
    (kk : W p l e R s m args below meth c H locs cells slots Q (F0 m (pc + 3) ls rest)) : W p l e R s m args below meth c H locs cells slots Q (F0 m pc ls (.ref a :: rest)) := by
  refine W.objInit E.1 E.2.1 E.2.2.2.1 (E.2.2.2.2.1 _ hlink) (E.2.2.2.2.1 _ hinst) (E.2.2.2.2.1 _ hcode) rfl (by rw [E.2.2.1]; exact hsz) rfl hdg hfr ?_ ?_
  · have h0 : (F0 m pc ls (.ref a :: rest)).monitorRoom = 0 := rfl
    rw [h0]; omega
  · exact kk
theorem rn_V {y : MethodName} {bytes : ByteArray} {maxL index n mc ms : Nat} {ret : Option FieldType} {rm : Room} {C : String} {b : Addr} {As : List Value} {wc : va_W} {X : State → Prop} {Qc : Array Value → State → Outcome → State → Prop} {st : List Value} (E : EN p c cc nL s args own m D cI cJ) (hw : WD D A H0 ws H locs)
    (hM : Met l y (Cond.code y bytes maxL ret :: GW) rm (va_Pc (.ref b :: As) (PW D cI cJ H.size wc X)) Qc mc ms (va_A wc H.size)) (hG : GoodIn GW (wsV own index C y (Cond.code y bytes maxL ret :: GW)))
    (hd : y.cls = C ∧ y.cls ≠ "java/lang/invoke/MethodHandle" ∧ y.cls ≠ "java/lang/invoke/VarHandle" ∧ (parseMethodDescriptor y.desc).map (fun d => d.parameters.length) = some n) (hrm : rm.cells = mc ∧ rm.slots = ms) (hR : rm.frames + 1 ≤ R.frames ∧ 8 + (maxL + 11) + rm.locals ≤ R.locals) (hf : cells + mc ≤ R.cells ∧ slots + ms ≤ R.slots)
    (hXb : XB X) (hX : ∀ U : State, U.heap = H → s.WarmedH U.vm → X U) (q0 ci : Nat) {q : vw_C} {fs : List Value} (hc : vwCl[ci]? = some q) (hq : q.1 = C) (he : ws[q0]? = some (b, .inr (ci, fs))) (isC : List Nat) (hC : isC.map (fun i => ws[i]?) = wc.map some) (hnC : va_nd isC = true)
    (hlen : As.length = n) (hsz : ls.size = nL) (hst : st = As.reverse ++ .ref b :: rest) (hrest : (rest.map fun v => v.category).sum ≤ 8) (hdg : decode cc pc = .ok (.invokevirtual index, 3)) :
    va_Run p l e R s m args below meth c H locs cells slots mc ms (F0 m pc ls st) rest (Qc (Value.ref b :: As).toArray) (va_A wc H.size) := by
  subst hst
  have hPc := hw.1.sub isC (fm_of isC wc hC)
  have hDc := hw.2.1.sub isC hnC hC
  obtain ⟨cell, r1, r2, r3⟩ := va_recv (q := q) E.2.2.2.2.2 hw.1 hc he
  exact va_runV ⟨E.1, E.2.1, E.2.2.1, E.2.2.2.1, E.2.2.2.2.1⟩ hM (cwV n E.2.2.2.2.1 hG rfl hrm.1 hrm.2 hd hR) ⟨pw_blind hXb, ⟨cell, r1, r2, hq ▸ r3⟩, fun U hU hW => ⟨rfl, by rw [hU], by rw [hU]; exact hPc, va_K.moved hW.alike E.2.2.2.2.2, hDc.weaken (fun _ _ _ _ => trivial), hX U hU hW⟩⟩ rfl hlen hsz rfl (lv_room hrest) hdg hf
theorem rn_I {y : MethodName} {bytes : ByteArray} {maxL index n mc ms : Nat} {rm : Room} {b : Addr} {As : List Value} {wc : va_W} {X : State → Prop} {Qc : Array Value → State → Outcome → State → Prop} {st : List Value} (E : EN p c cc nL s args own m D cI cJ) (hw : WD D A H0 ws H locs)
    (hM : Met l y (Cond.code y bytes maxL none :: GW) rm (va_Pc (.ref b :: As) (PW D cI cJ H.size wc X)) Qc mc ms (va_A wc H.size)) (hcode : Cond.code y bytes maxL none ∈ GW) (hini : Cond.initialized y.cls ∈ GW) (hlk : Cond.methodLink own index y ∈ GW) (hins : Cond.instanceMethod y ∈ GW)
    (hd : y.cls ≠ "java/lang/invoke/MethodHandle" ∧ y.cls ≠ "java/lang/invoke/VarHandle" ∧ (parseMethodDescriptor y.desc).map (fun d => d.parameters.length) = some n) (hy : y.name = "<init>") (hrm : rm.cells = mc ∧ rm.slots = ms) (hR : rm.frames + 1 ≤ R.frames ∧ 8 + (maxL + 11) + rm.locals ≤ R.locals) (hf : cells + mc ≤ R.cells ∧ slots + ms ≤ R.slots)
    (hXb : XB X) (hX : ∀ U : State, U.heap = H → s.WarmedH U.vm → X U) (isC : List Nat) (hC : isC.map (fun i => ws[i]?) = wc.map some) (hnC : va_nd isC = true)
    (hlen : As.length = n) (hsz : ls.size = nL) (hst : st = As.reverse ++ .ref b :: rest) (hrest : (rest.map fun v => v.category).sum ≤ 8) (hdg : decode cc pc = .ok (.invokespecial index, 3)) :
    va_Run p l e R s m args below meth c H locs cells slots mc ms (F0 m pc ls st) rest (Qc (Value.ref b :: As).toArray) (va_A wc H.size) := by
  subst hst
  have hPc := hw.1.sub isC (fm_of isC wc hC)
  have hDc := hw.2.1.sub isC hnC hC
  exact va_runI ⟨E.1, E.2.1, E.2.2.1, E.2.2.2.1, E.2.2.2.2.1⟩ hM (cwI n E.2.2.2.2.1 (gdI hcode) rfl hrm.1 hrm.2 (E.2.2.2.2.1 _ hini) (E.2.2.2.2.1 _ hlk) (E.2.2.2.2.1 _ hins) hy hd hR) ⟨pw_blind hXb, fun U hU hW => ⟨rfl, by rw [hU], by rw [hU]; exact hPc, va_K.moved hW.alike E.2.2.2.2.2, hDc.weaken (fun _ _ _ _ => trivial), hX U hU hW⟩⟩ rfl hlen hsz rfl (lv_room hrest) hdg hf
theorem rn_S {y : MethodName} {bytes : ByteArray} {maxL index n mc ms : Nat} {ret : Option FieldType} {rm : Room} {As : List Value} {wc : va_W} {X : State → Prop} {Qc : Array Value → State → Outcome → State → Prop} {st : List Value} (E : EN p c cc nL s args own m D cI cJ) (hw : WD D A H0 ws H locs)
    (hM : Met l y (Cond.code y bytes maxL ret :: GW) rm (va_Pc As (PW D cI cJ H.size wc X)) Qc mc ms (va_A wc H.size)) (hG : GoodIn GW (wsS own index y (Cond.code y bytes maxL ret :: GW)))
    (hd : y.cls = own ∧ y.cls ≠ "java/lang/invoke/MethodHandle" ∧ y.cls ≠ "java/lang/invoke/VarHandle" ∧ (parseMethodDescriptor y.desc).map (fun d => d.parameters.length) = some n) (hrm : rm.cells = mc ∧ rm.slots = ms) (hR : rm.frames + 1 ≤ R.frames ∧ 8 + (maxL + 11) + rm.locals ≤ R.locals) (hf : cells + mc ≤ R.cells ∧ slots + ms ≤ R.slots)
    (hXb : XB X) (hX : ∀ U : State, U.heap = H → s.WarmedH U.vm → X U) (isC : List Nat) (hC : isC.map (fun i => ws[i]?) = wc.map some) (hnC : va_nd isC = true)
    (hlen : As.length = n) (hsz : ls.size = nL) (hst : st = As.reverse ++ rest) (hrest : (rest.map fun v => v.category).sum ≤ 8) (hdg : decode cc pc = .ok (.invokestatic index, 3)) :
    va_Run p l e R s m args below meth c H locs cells slots mc ms (F0 m pc ls st) rest (Qc As.toArray) (va_A wc H.size) := by
  subst hst
  have hPc := hw.1.sub isC (fm_of isC wc hC)
  have hDc := hw.2.1.sub isC hnC hC
  exact va_runS ⟨E.1, E.2.1, E.2.2.1, E.2.2.2.1, E.2.2.2.2.1⟩ hM (cwS n E.2.2.2.2.1 hG rfl hrm.1 hrm.2 hd hR) ⟨pw_blind hXb, fun U hU hW => ⟨rfl, by rw [hU], by rw [hU]; exact hPc, va_K.moved hW.alike E.2.2.2.2.2, hDc.weaken (fun _ _ _ _ => trivial), hX U hU hW⟩⟩ rfl hlen hsz rfl (lv_room hrest) hdg hf
theorem bk {wc wr w1 : va_W} {H1 : Heap} {locs1 : List Loc} {t : State} (hw : WD D A H0 ws H locs) (isC isR : List Nat) (hC : isC.map (fun i => ws[i]?) = wc.map some) (hR : isR.map (fun i => ws[i]?) = wr.map some) (hn : va_nd isR = true) (hdis : ∀ i ∈ isR, i ∉ isC) (ht : t.heap = H1) (hB : QW D cI cJ (va_A wc H.size) w1 t) (hk : ∀ q : Nat, q < H.size → ¬ va_A wc H.size q → H1[q]? = H[q]?) (hS : va_S A H0 H1 locs1) : WD D A H0 (wr ++ w1) H1 locs1 := by
  obtain ⟨h1, -, h3⟩ := hB
  rw [ht] at h1
  obtain ⟨a1, a2⟩ := va_join hw.1 hw.2.1 isC isR hC hR hn hdis hk (va_free hw.2.1 hw.2.2.1 hw.2.2.2 isC hC) h1 h3
  exact ⟨a1, a2, hS, hw.2.2.2⟩
theorem cl_v {S : Type} {post : S → Prop} {w1 : S → va_W} {wc wr : va_W} {mc ms k1 n1 : Nat} {st : List Value} {av : Array Value} (hw : WD D A H0 ws H locs) (isC isR : List Nat) (hC : isC.map (fun i => ws[i]?) = wc.map some) (hR : isR.map (fun i => ws[i]?) = wr.map some) (hn : va_nd isR = true) (hdis : ∀ i ∈ isR, i ∉ isC) (hk1 : cells + mc ≤ k1) (hn1 : slots + ms ≤ n1)
    (hr : va_Run p l e R s m args below meth c H locs cells slots mc ms (F0 m pc ls st) rest (va_Qv post (fun u => QW D cI cJ (va_A wc H.size) (w1 u)) (va_A wc H.size) av) (va_A wc H.size))
    (kk : ∀ (u : S) (H1 : Heap) (locs1 : List Loc), post u → WD D A H0 (wr ++ w1 u) H1 locs1 → W p l e R s m args below meth c H1 locs1 k1 n1 Q (F0 m (pc + 3) ls rest)) : W p l e R s m args below meth c H locs cells slots Q (F0 m pc ls st) :=
  have hF := va_free hw.2.1 hw.2.2.1 hw.2.2.2 isC hC
  va_callv hr hw.2.2.1 (fun q _ h => hF q h) hF (fun u _ H1 locs1 ht _ hp hB _ hk hS => W.widen hk1 hn1 (kk u H1 locs1 hp (bk hw isC isR hC hR hn hdis ht hB hk hS)))
theorem cl_i {S : Type} {post : Int32 → S → Prop} {w1 : S → va_W} {wc wr : va_W} {mc ms k1 n1 : Nat} {st : List Value} {av : Array Value} (hw : WD D A H0 ws H locs) (isC isR : List Nat) (hC : isC.map (fun i => ws[i]?) = wc.map some) (hR : isR.map (fun i => ws[i]?) = wr.map some) (hn : va_nd isR = true) (hdis : ∀ i ∈ isR, i ∉ isC) (hk1 : cells + mc ≤ k1) (hn1 : slots + ms ≤ n1)
    (hr : va_Run p l e R s m args below meth c H locs cells slots mc ms (F0 m pc ls st) rest (va_Qi post (fun u => QW D cI cJ (va_A wc H.size) (w1 u)) (va_A wc H.size) av) (va_A wc H.size))
    (kk : ∀ (r : Int32) (u : S) (H1 : Heap) (locs1 : List Loc), post r u → WD D A H0 (wr ++ w1 u) H1 locs1 → W p l e R s m args below meth c H1 locs1 k1 n1 Q (F0 m (pc + 3) ls (.int r :: rest))) : W p l e R s m args below meth c H locs cells slots Q (F0 m pc ls st) :=
  have hF := va_free hw.2.1 hw.2.2.1 hw.2.2.2 isC hC
  va_calli hr hw.2.2.1 (fun q _ h => hF q h) hF (fun r u _ H1 locs1 ht _ hp hB _ hk hS => W.widen hk1 hn1 (kk r u H1 locs1 hp (bk hw isC isR hC hR hn hdis ht hB hk hS)))
theorem cl_l {S : Type} {post : Int64 → S → Prop} {w1 : S → va_W} {wc wr : va_W} {mc ms k1 n1 : Nat} {st : List Value} {av : Array Value} (hw : WD D A H0 ws H locs) (isC isR : List Nat) (hC : isC.map (fun i => ws[i]?) = wc.map some) (hR : isR.map (fun i => ws[i]?) = wr.map some) (hn : va_nd isR = true) (hdis : ∀ i ∈ isR, i ∉ isC) (hk1 : cells + mc ≤ k1) (hn1 : slots + ms ≤ n1)
    (hr : va_Run p l e R s m args below meth c H locs cells slots mc ms (F0 m pc ls st) rest (va_Ql post (fun u => QW D cI cJ (va_A wc H.size) (w1 u)) (va_A wc H.size) av) (va_A wc H.size))
    (kk : ∀ (r : Int64) (u : S) (H1 : Heap) (locs1 : List Loc), post r u → WD D A H0 (wr ++ w1 u) H1 locs1 → W p l e R s m args below meth c H1 locs1 k1 n1 Q (F0 m (pc + 3) ls (.long r :: rest))) : W p l e R s m args below meth c H locs cells slots Q (F0 m pc ls st) :=
  have hF := va_free hw.2.1 hw.2.2.1 hw.2.2.2 isC hC
  va_calll hr hw.2.2.1 (fun q _ h => hF q h) hF (fun r u _ H1 locs1 ht _ hp hB _ hk hS => W.widen hk1 hn1 (kk r u H1 locs1 hp (bk hw isC isR hC hR hn hdis ht hB hk hS)))
theorem qw_at {S : Type} {w1 : S → va_W} {t : State} (E : EN p c cc nL s args own m D cI cJ) (hw : WD D A H0 ws H locs) (u : S) (is : List Nat) (hs : is.map (fun i => ws[i]?) = (w1 u).map some) (hn : va_nd is = true) (ht : t.heap = H) (hW : s.WarmedH t.vm) : QW D cI cJ A (w1 u) t :=
  ⟨by rw [ht]; exact hw.1.sub is (fm_of is _ hs), va_K.moved hW.alike E.2.2.2.2.2, hw.2.1.sub is hn hs⟩
theorem nd_v {S : Type} {post : S → Prop} {w1 : S → va_W} {mc ms : Nat} (E : EN p c cc nL s args own m D cI cJ) (hr : meth.sig.returnType = none) (hlk : meth.locks = false) (hw : WD D A s.heap ws H locs) (u : S) (hp : post u) (is : List Nat) (hs : is.map (fun i => ws[i]?) = (w1 u).map some) (hn : va_nd is = true) (hmc : cells ≤ mc) (hms : slots ≤ ms) (hdg : decode cc pc = .ok (.return_, 1)) :
    W p l e R s m args below meth c H locs cells slots (MQ below (va_Qv post (fun u => QW D cI cJ A (w1 u)) A) args s mc ms A) (F0 m pc ls []) :=
  W.widen hmc hms (W.vret E.1 E.2.1 hr (fun _ ht hW => ⟨⟨u, rfl, hp, qw_at E hw u is hs hn ht hW⟩, hw.2.2.1.F ht⟩) hw.2.2.1.2.2 hdg hlk)
end XR
