section XR7
variable {p : Program} {l : Launch} {e : Env} {R : Room} {s : State} {m : MethodId} {args : Array Value} {below : List Frame} {meth : Method} {c : Code} {H : Heap} {locs : List Loc} {cells slots : Nat} {Q : State → Prop}
variable {cc : ByteArray} {pc : Nat} {ls : Array Slot} {rest : List Value} {D : va_G} {A : Nat → Prop} {nL : Nat} {cI cJ : ClassId} {own : String}
theorem x_max {index : Nat} (E : EN p c cc nL s args own m D cI cJ) (hsz : ls.size = nL) (hlink : Cond.methodLink own index Lib.Math.max.name ∈ GW) (hstat : Cond.static Lib.Math.max.name ∈ GW) (hini : Cond.initialized "java/lang/Math" ∈ GW) (hcode : Cond.code Lib.Math.max.name Lib.Math.max.code 2 (some .int) ∈ GW) {a b : Int32} (hfr : 1 ≤ R.frames) (hlo : (rest.map fun v => v.category).sum + 13 ≤ R.locals) (hcc : cells ≤ R.cells) (hss : slots ≤ R.slots) (hdg : decode cc pc = .ok (.invokestatic index, 3))
    (kk : ∀ v : Int32, (a.toInt ≤ v.toInt ∧ b.toInt ≤ v.toInt ∧ (v.toInt = a.toInt ∨ v.toInt = b.toInt)) → W p l e R s m args below meth c H locs cells slots Q (F0 m (pc + 3) ls (.int v :: rest))) : W p l e R s m args below meth c H locs cells slots Q (F0 m pc ls (.int b :: .int a :: rest)) := by
  intro T hT X
  obtain ⟨vm', X', step⟩ := X.mathMaxH E.1 E.2.2.2.1 (E.2.2.2.2.1 _ hlink) (E.2.2.2.2.1 _ hstat) (E.2.2.2.2.1 _ hini) (E.2.2.2.2.1 _ hcode) (g := F0 m pc ls (.int b :: .int a :: rest)) rfl (by rw [E.2.2.1]; exact hsz) rfl (by rw [E.2.1]; exact hdg) hfr (by show 2 * 0 + _ + _ ≤ _; omega) hcc hss
  have hv : a.toInt ≤ (if a < b then b else a).toInt ∧ b.toInt ≤ (if a < b then b else a).toInt ∧ ((if a < b then b else a).toInt = a.toInt ∨ (if a < b then b else a).toInt = b.toInt) := by
    by_cases h : a < b
    · rw [if_pos h]; have := f_lt h; omega
    · rw [if_neg h]; have := f_nlt h; omega
  obtain ⟨t, a1, b1⟩ := kk _ hv (T.setVm vm') hT X'
  exact ⟨t, step _ a1, b1⟩
theorem x_min {index : Nat} (E : EN p c cc nL s args own m D cI cJ) (hsz : ls.size = nL) (hlink : Cond.methodLink own index Lib.Math.min.name ∈ GW) (hstat : Cond.static Lib.Math.min.name ∈ GW) (hini : Cond.initialized "java/lang/Math" ∈ GW) (hcode : Cond.code Lib.Math.min.name Lib.Math.min.code 2 (some .int) ∈ GW) {a b : Int32} (hfr : 1 ≤ R.frames) (hlo : (rest.map fun v => v.category).sum + 13 ≤ R.locals) (hcc : cells ≤ R.cells) (hss : slots ≤ R.slots) (hdg : decode cc pc = .ok (.invokestatic index, 3))
    (kk : ∀ v : Int32, (v.toInt ≤ a.toInt ∧ v.toInt ≤ b.toInt ∧ (v.toInt = a.toInt ∨ v.toInt = b.toInt)) → W p l e R s m args below meth c H locs cells slots Q (F0 m (pc + 3) ls (.int v :: rest))) : W p l e R s m args below meth c H locs cells slots Q (F0 m pc ls (.int b :: .int a :: rest)) := by
  intro T hT X
  obtain ⟨vm', X', step⟩ := X.mathMinH E.1 E.2.2.2.1 (E.2.2.2.2.1 _ hlink) (E.2.2.2.2.1 _ hstat) (E.2.2.2.2.1 _ hini) (E.2.2.2.2.1 _ hcode) (g := F0 m pc ls (.int b :: .int a :: rest)) rfl (by rw [E.2.2.1]; exact hsz) rfl (by rw [E.2.1]; exact hdg) hfr (by show 2 * 0 + _ + _ ≤ _; omega) hcc hss
  have hv : (if b < a then b else a).toInt ≤ a.toInt ∧ (if b < a then b else a).toInt ≤ b.toInt ∧ ((if b < a then b else a).toInt = a.toInt ∨ (if b < a then b else a).toInt = b.toInt) := by
    by_cases h : b < a
    · rw [if_pos h]; have := f_lt h; omega
    · rw [if_neg h]; have := f_nlt h; omega
  obtain ⟨t, a1, b1⟩ := kk _ hv (T.setVm vm') hT X'
  exact ⟨t, step _ a1, b1⟩
theorem x_maxL {index : Nat} (E : EN p c cc nL s args own m D cI cJ) (hsz : ls.size = nL) (hlink : Cond.methodLink own index Lib.MathLoose.max_long.x ∈ GW) (hstat : Cond.static Lib.MathLoose.max_long.x ∈ GW) (hini : Cond.initialized "java/lang/Math" ∈ GW) (hcode : Cond.code Lib.MathLoose.max_long.x Lib.MathLoose.max_long.code 4 (some .long) ∈ GW) {a b : Int64} (hfr : 1 ≤ R.frames) (hlo : (rest.map fun v => v.category).sum + 15 ≤ R.locals) (hcc : cells ≤ R.cells) (hss : slots ≤ R.slots) (hdg : decode cc pc = .ok (.invokestatic index, 3))
    (kk : ∀ v : Int64, W p l e R s m args below meth c H locs cells slots Q (F0 m (pc + 3) ls (.long v :: rest))) : W p l e R s m args below meth c H locs cells slots Q (F0 m pc ls (.long b :: .long a :: rest)) := by
  intro T hT X
  obtain ⟨vm', X', step⟩ := X.mathMaxLH E.1 E.2.2.2.1 (E.2.2.2.2.1 _ hlink) (E.2.2.2.2.1 _ hstat) (E.2.2.2.2.1 _ hini) (E.2.2.2.2.1 _ hcode) (g := F0 m pc ls (.long b :: .long a :: rest)) rfl (by rw [E.2.2.1]; exact hsz) rfl (by rw [E.2.1]; exact hdg) hfr (by show 2 * 0 + _ + _ ≤ _; omega) hcc hss
  obtain ⟨t, a1, b1⟩ := kk _ (T.setVm vm') hT X'
  exact ⟨t, step _ a1, b1⟩
theorem x_abs {index : Nat} (E : EN p c cc nL s args own m D cI cJ) (hsz : ls.size = nL) (hlink : Cond.methodLink own index Lib.MathLoose.abs_int.x ∈ GW) (hstat : Cond.static Lib.MathLoose.abs_int.x ∈ GW) (hini : Cond.initialized "java/lang/Math" ∈ GW) (hcode : Cond.code Lib.MathLoose.abs_int.x Lib.MathLoose.abs_int.code 1 (some .int) ∈ GW) {a : Int32} (hfr : 1 ≤ R.frames) (hlo : (rest.map fun v => v.category).sum + 12 ≤ R.locals) (hcc : cells ≤ R.cells) (hss : slots ≤ R.slots) (hdg : decode cc pc = .ok (.invokestatic index, 3))
    (kk : ∀ v : Int32, W p l e R s m args below meth c H locs cells slots Q (F0 m (pc + 3) ls (.int v :: rest))) : W p l e R s m args below meth c H locs cells slots Q (F0 m pc ls (.int a :: rest)) := by
  intro T hT X
  have hc1 := E.2.2.2.2.1 _ hcode
  obtain ⟨v, vm', X', ⟨first, t0, hpost⟩, step⟩ := X.staticByContractHK E.1 E.2.2.2.1 (E.2.2.2.2.1 _ hlink) (E.2.2.2.2.1 _ hstat) (E.2.2.2.2.1 _ hini) hc1 (by decide) (Lib.MathLoose.abs_int.meetsLoose l) rfl rfl rfl rfl
    (fun args' first o s₂ h => by
      cases o with
      | returned r => exact ⟨r, rfl⟩
      | threw y =>
        exfalso
        simp only [Lib.MathLoose.abs_int.spec, Cond.after, Cond.holds, Cond.value] at h
        generalize Term.eval args' first (some (Outcome.threw y)) [] s₂ (Term.arg 0) = e0 at h
        rcases e0 with _ | v0
        all_goals first | (cases v0 <;> simp at h) | simp at h
        all_goals (revert h; repeat' split) <;> simp_all)
    (g := F0 m pc ls (.int a :: rest)) rfl (by rw [E.2.2.1]; exact hsz) (argsL := [.int a]) (rest := rest)
    (fun sig hs => by
      have h : parseMethodDescriptor "(I)I" = some { parameters := [.int], returnType := some .int } := by decide +kernel
      rw [show Lib.MathLoose.abs_int.x.desc = "(I)I" from rfl, h] at hs
      rw [← Option.some.inj hs]; rfl)
    rfl (by rw [E.2.1]; exact hdg)
    (fun vm' hW => by
      simp only [Lib.MathLoose.abs_int.spec, Cond.before_and, Bool.and_eq_true]
      refine ⟨?_, rfl, rfl⟩
      have q := hc1
      rw [← Cond.code_setVm hW.alike] at q
      simp only [Cond.before, Cond.holds, Cond.value, State.methodNamed?, State.vm_setVm] at q ⊢
      exact q)
    hfr (by show 2 * 0 + _ + _ + _ ≤ _; have q : Lib.MathLoose.abs_int.spec.room.locals = 0 := rfl; rw [q]; omega) (by have q : Lib.MathLoose.abs_int.spec.room.cells = 0 := rfl; rw [q]; omega) (by have q : Lib.MathLoose.abs_int.spec.room.slots = 0 := rfl; rw [q]; omega)
  have hx : ∃ z : Int32, v = some (.int z) := by
    rcases v with _ | w
    · exfalso
      by_cases h1 : (0 : Int32) ≤ a <;> simp [Lib.MathLoose.abs_int.spec, Cond.after, Cond.holds, Cond.value, Term.eval, Unary.apply, h1] at hpost
    · cases w with
      | int z => exact ⟨z, rfl⟩
      | _ =>
        exfalso
        by_cases h1 : (0 : Int32) ≤ a <;> simp [Lib.MathLoose.abs_int.spec, Cond.after, Cond.holds, Cond.value, Term.eval, Unary.apply, h1] at hpost
  obtain ⟨z, rfl⟩ := hx
  obtain ⟨t, a1, b1⟩ := kk z (T.setVm vm') hT X'
  exact ⟨t, step _ a1, b1⟩
end XR7
