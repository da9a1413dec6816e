/-! rows that are there from the beginning (set's bounds), the texts' places, the array classes -/
def f_least : Nat → Value := fun j => .int (([0, 0, 0, 1, 1, 0, 1, 0, 0, 0, 0] : List Int32).getD j 0)
def f_most : Nat → Value := fun j => .int (([9, 1000, 99, 99, 99, 9, 20, 999, 99, 99, 9999] : List Int32).getD j 0)
def xZ (t1 t2 : Nat) (A : Nat → Prop) : State → Prop := fun U => va_Z "LampRound" "LEAST_SET" "[I" (.ref t1) A U U.heap ∧ va_T .int t1 11 f_least A U U.heap ∧ va_Z "LampRound" "MOST_SET" "[I" (.ref t2) A U U.heap ∧ va_T .int t2 11 f_most A U U.heap
theorem xZ_b {t1 t2 : Nat} {A : Nat → Prop} : XB (xZ t1 t2 A) := fun a U g mk h => ⟨va_Z.moved (u := U) (U := U.calling g mk a) (Vm.Alike.refl U.vm) h.1, va_T.moved (u := U) (U := U.calling g mk a) (Vm.Alike.refl U.vm) h.2.1, va_Z.moved (u := U) (U := U.calling g mk a) (Vm.Alike.refl U.vm) h.2.2.1, va_T.moved (u := U) (U := U.calling g mk a) (Vm.Alike.refl U.vm) h.2.2.2⟩
theorem xZ_at {t1 t2 : Nat} {A0 : Nat → Prop} {s : State} {H : Heap} {locs : List Loc} {wc : va_W} (h : xZ t1 t2 A0 s) (hS : va_S A0 s.heap H locs) (hF : ∀ q, va_A wc H.size q → A0 q) : ∀ U : State, U.heap = H → s.WarmedH U.vm → xZ t1 t2 (va_A wc H.size) U := by
  intro U hU hW
  have k : ∀ a : Nat, a < s.heap.size → ¬ A0 a → H[a]? = s.heap[a]? := hS.2.1
  unfold xZ
  rw [hU]
  exact ⟨((h.1.kept k).narrow hF).moved hW.alike, ((h.2.1.kept k).narrow hF).moved hW.alike, ((h.2.2.1.kept k).narrow hF).moved hW.alike, ((h.2.2.2.kept k).narrow hF).moved hW.alike⟩
theorem mk_metA {l : Launch} {y : MethodName} {bytes : ByteArray} {maxL : Nat} {ret : Option FieldType} {rm : Room} {avs : List Value} {D : va_G} {cI cJ : ClassId} {sz : Nat} {WS : va_W} {X : (Nat → Prop) → State → Prop} {Qf : (Nat → Prop) → Array Value → State → Outcome → State → Prop} {mc ms : Nat}
    (hy : plainName y.cls = true) (hn : (lg_sl avs).length ≤ maxL)
    (body : ∀ (p : Program) (e : Env) (s : State) (m : MethodId) (below : List Frame) (meth : Method) (c : Code) (A : Nat → Prop) (ls : Array Slot), EN p c bytes maxL s avs.toArray y.cls m D cI cJ → meth.sig.returnType = ret → meth.locks = false → meth.name = y.name → X A s → WD D A s.heap WS s.heap [] → lv_has ls maxL (lv_args 0 avs) →
      W p l e rm s m avs.toArray below meth c s.heap [] 0 0 (MQ below (Qf A) avs.toArray s mc ms A) (F0 m 0 ls [])) :
    Met l y (Cond.code y bytes maxL ret :: GW) rm (va_Pc avs (PW D cI cJ sz WS (X (va_A WS sz)))) (Qf (va_A WS sz)) mc ms (va_A WS sz) := by
  refine Met.ofW (cc := bytes) (maxL := maxL) (ret := ret) hy rfl ?_
  intro p e s m args below meth c s₁ B hml hv
  obtain ⟨rfl, hsz, hP, hK, hD0, hX⟩ := hv
  subst hsz
  have hts := atoms_spec (ws := Cond.code y bytes maxL ret :: GW) B.pre
  rw [lg_entry_eq]
  have hl := lv_entry avs (n := maxL) hn
  generalize (lg_sl avs ++ List.replicate (maxL - (lg_sl avs).length) Slot.unset).toArray = ls at hl ⊢
  exact body p e s m below meth c _ ls ⟨B.exec, B.bytes, hml, findClass_of_methodNamed B.named, fun w h => hts w (List.mem_cons_of_mem _ h), hK⟩ B.returns B.notSynchronized (name_of_methodNamed B.named B.method).1 hX ⟨hP, hD0.self, va_S.rf, fun q h => Or.inr h⟩ hl
section XR3
variable {p : Program} {l : Launch} {e : Env} {R : Room} {s : State} {m : MethodId} {args : Array Value} {below : List Frame} {meth : Method} {c : Code} {H : Heap} {locs : List Loc} {cells slots : Nat} {Q : State → Prop}
variable {cc : ByteArray} {pc : Nat} {ls : Array Slot} {rest : List Value} {D : va_G} {A : Nat → Prop} {a nL : Nat} {cI cJ : ClassId} {ws : va_W} {own : String}
theorem x_gets {C n d ref : String} {v : Value} {index : Nat} (E : EN p c cc nL s args own m D cI cJ) (hw : WD D A s.heap ws H locs) (hZ : va_Z C n d v A s s.heap) (hlink : Cond.fieldLink own index ref n d ∈ GW) (hrf : C = ref) (hdg : decode cc pc = .ok (.getstatic index, 3))
    (kk : W p l e R s m args below meth c H locs cells slots Q (F0 m (pc + 3) ls (v :: rest))) : W p l e R s m args below meth c H locs cells slots Q (F0 m pc ls rest) :=
  va_gets E.1 E.2.1 hZ hw.2.2.1 E.2.2.2.1 (E.2.2.2.2.1 _ hlink) (fun _ h => hrf ▸ h) hdg kk
theorem x_ti {t N : Nat} {f : Nat → Value} (E : EN p c cc nL s args own m D cI cJ) (hw : WD D A s.heap ws H locs) (hT : va_T .int t N f A s s.heap) {i : Int32} (hin : vp_in i N) {v : Value} (hv : f i.toNatClampNeg = v) (hdg : decode cc pc = .ok (.iaload, 1))
    (kk : W p l e R s m args below meth c H locs cells slots Q (F0 m (pc + 1) ls (v :: rest))) : W p l e R s m args below meth c H locs cells slots Q (F0 m pc ls (.int i :: .ref t :: rest)) :=
  va_ti E.1 E.2.1 hT hw.2.2.1 hin hv hdg kk
theorem x_tlen {t N : Nat} {f : Nat → Value} (E : EN p c cc nL s args own m D cI cJ) (hw : WD D A s.heap ws H locs) (hT : va_T .int t N f A s s.heap) {v : Int32} (hv : Int32.ofNat N = v) (hdg : decode cc pc = .ok (.arraylength, 1))
    (kk : W p l e R s m args below meth c H locs cells slots Q (F0 m (pc + 1) ls (.int v :: rest))) : W p l e R s m args below meth c H locs cells slots Q (F0 m pc ls (.ref t :: rest)) :=
  va_tlen E.1 E.2.1 hT hw.2.2.1 hv hdg kk
end XR3
theorem lcmp_self (x : Int64) : lg_cmp x x = 0 := by
  unfold lg_cmp
  simp
theorem arr_known {s : State} {args : Array Value} {ty : FieldType} (h : (Cond.arrayClass ty).before args s = true) : ∃ cA : ClassId, ArrOfT s cA ty ∧ s.vm.findClass ("[" ++ ty.toString) = some cA := by
  obtain ⟨c, k, comp, h1, h2, h3⟩ := Cond.arrayClass_spec h
  exact ⟨c, fun n z => ⟨fun k h => (by cases h), k, h2, comp, h3⟩, h1⟩
theorem vk_ex {own tx : String} {k : Nat} {A : Array Value} {U : State} (h : (Cond.stringRef own k tx).before A U = true) : ∃ a : Nat, vk_R own k tx a U := by
  have hcur : ∃ cur, U.vm.findClass own = some cur := by
    have h1 := h
    simp only [Cond.before, Cond.holds, Cond.value] at h1
    cases hc : U.vm.findClass own with
    | none => simp [hc] at h1
    | some cur => exact ⟨cur, rfl⟩
  obtain ⟨cur, hcur⟩ := hcur
  obtain ⟨k', cf, i, a, -, -, -, -, -, hev⟩ := Cond.stringRef_spec hcur h
  exact ⟨a, vk_R.of h hev⟩
theorem sw28 (x : Int32) : (∃ k : Nat, k < 28 ∧ x = nI k) ∨ x < 0 ∨ 27 < x := by
  rcases sw 28 (by decide) x with h | h | h
  · exact Or.inl h
  · exact Or.inr (Or.inl h)
  · exact Or.inr (Or.inr (b_lt (by
      have h1 := f_le h
      rw [nI_toInt (by decide)] at h1
      have h2 : (27 : Int32).toInt = 27 := by decide +kernel
      omega)))
