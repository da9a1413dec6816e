section XR5
variable {p : Program} {l : Launch} {e : Env} {R : Room} {s : State} {m : MethodId} {args : Array Value} {below : List Frame} {meth : Method} {c : Code} {H : Heap} {locs : List Loc} {cells slots : Nat} {Q : State → Prop}
variable {cc : ByteArray} {pc : Nat} {ls : Array Slot} {rest : List Value} {D : va_G} {A : Nat → Prop} {a nL : Nat} {cI cJ : ClassId} {ws : va_W} {H0 : Heap} {own : String}
theorem x_lald (E : EN p c cc nL s args own m D cI cJ) (hw : WD D A H0 ws H locs) (q0 : Nat) {n : Nat} {f : Nat → Int64} (ha : ws[q0]? = some (a, .inl (cJ, n, .inr (.inl f)))) {i : Int32} (hin : vp_in i n) (hdg : decode cc pc = .ok (.laload, 1))
    (kk : ∀ x : Int64, W p l e R s m args below meth c H locs cells slots Q (F0 m (pc + 1) ls (.long x :: rest))) : W p l e R s m args below meth c H locs cells slots Q (F0 m pc ls (.int i :: .ref a :: rest)) :=
  va_lald E.1 E.2.1 E.2.2.2.2.2 hw.1 q0 1 ha rfl hin hdg (kk _)
theorem x_lastO (E : EN p c cc nL s args own m D cI cJ) (hw : WD D A H0 ws H locs) (q0 : Nat) {n : Nat} {f : Nat → Int64} (ha : ws[q0]? = some (a, .inl (cJ, n, .inr (.inl f)))) {i : Int32} {x : Int64} (hin : vp_in i n) {wf : (Nat → Int64) → va_W} (hws : ∀ g : Nat → Int64, ws.set q0 (a, .inl (cJ, n, .inr (.inl g))) = wf g) (hdg : decode cc pc = .ok (.lastore, 1))
    (kk : ∀ (g : Nat → Int64) (H1 : Heap) (locs1 : List Loc), WD D A H0 (wf g) H1 locs1 → W p l e R s m args below meth c H1 locs1 cells slots Q (F0 m (pc + 1) ls rest)) : W p l e R s m args below meth c H locs cells slots Q (F0 m pc ls (.long x :: .int i :: .ref a :: rest)) :=
  va_last E.1 E.2.1 E.2.2.2.2.2 hw.1 hw.2.1 hw.2.2.1 q0 1 ha rfl hin hdg (fun H1 locs1 h1 h2 h3 => kk _ H1 locs1 ⟨hws _ ▸ h1, hws _ ▸ h2, h3, hw.2.2.2⟩)
end XR5
def pathsOK (f : Nat → Int32) : Prop := ∀ i : Nat, i < 40 → (0 ≤ (f (4 * i)).toInt ∧ (f (4 * i)).toInt ≤ 9) ∧ (0 ≤ (f (4 * i + 1)).toInt ∧ (f (4 * i + 1)).toInt ≤ 9)
theorem pathsOK_0 {f : Nat → Int32} (h : pathsOK f) {j v x : Int32} (hv : v = f j.toNatClampNeg) (hj : j.toInt = 4 * x.toInt) (hx : 0 ≤ x.toInt ∧ x.toInt < 40) : 0 ≤ v.toInt ∧ v.toInt ≤ 9 := by
  have e := idxI (x := j) (by omega)
  have ex := idxI (x := x) hx.1
  rw [hv, show j.toNatClampNeg = 4 * x.toNatClampNeg from by omega]
  exact (h _ (by omega)).1
theorem pathsOK_1 {f : Nat → Int32} (h : pathsOK f) {j v x : Int32} (hv : v = f j.toNatClampNeg) (hj : j.toInt = 4 * x.toInt + 1) (hx : 0 ≤ x.toInt ∧ x.toInt < 40) : 0 ≤ v.toInt ∧ v.toInt ≤ 9 := by
  have e := idxI (x := j) (by omega)
  have ex := idxI (x := x) hx.1
  rw [hv, show j.toNatClampNeg = 4 * x.toNatClampNeg + 1 from by omega]
  exact (h _ (by omega)).2
def CP (g w : Nat → Int32) (b c : Nat) (n : Int) : Prop := ∀ j : Nat, (j : Int) < n → g (b + j) = w (c + j)
theorem CP_nil {g w : Nat → Int32} {b c : Nat} {n : Int} (h : n ≤ 0) : CP g w b c n := fun j hj => absurd hj (by omega)
theorem CP_step {g g' w : Nat → Int32} {b c : Nat} {i d e x j : Int32} (h : CP g w b c i.toInt) (hg : g' = upd g d.toNatClampNeg x) (hx : x = w e.toNatClampNeg) (hd : d.toInt = b + i.toInt) (he : e.toInt = c + i.toInt) (h0 : 0 ≤ i.toInt) (hj : j.toInt = i.toInt + 1) : CP g' w b c j.toInt := by
  intro k hk
  have e1 := idxI (x := d) (by omega)
  have e2 := idxI (x := e) (by omega)
  have e3 := idxI (x := i) h0
  rw [hg]
  by_cases q : (k : Int) < i.toInt
  · rw [pk_un (by omega)]; exact h k q
  · rw [show b + k = d.toNatClampNeg from by omega, pk_us, hx, show c + k = e.toNatClampNeg from by omega]
