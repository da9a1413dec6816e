theorem cE {v x c : Int32} (hv : v = x) (h : v.toInt = c.toInt) : x = c := hv ▸ Int32.toInt_inj.mp h
theorem nE {v x c : Int32} (hv : v = x) (h : ¬ v.toInt = c.toInt) : ¬ x = c := fun e => h (by rw [hv, e])
theorem run_part {o a s : Nat → Int32} {b t u : Nat} {k top t1 y v : Int32} (hst : ST o a b k.toNatClampNeg t u) (hv : v = o k.toNatClampNeg) (h5 : v.toInt = 5) (hl : b < k.toNatClampNeg → o (k.toNatClampNeg - 1) = 0 → s (top.toNatClampNeg - 1) = a (k.toNatClampNeg - 1)) (hy : y = s t1.toNatClampNeg) (ht : t1.toInt = top.toInt - 1) (h0 : 1 ≤ top.toInt) : ¬ y.toInt = 0 := by
  have z := ST_part hst (cE hv (by rw [h5]; decide +kernel))
  have e1 := idxI (x := t1) (by omega)
  have e2 := idxI (x := top) (by omega)
  have w := hl z.1 z.2.1
  rw [show top.toNatClampNeg - 1 = t1.toNatClampNeg from by omega, ← hy] at w
  intro q
  exact z.2.2 (by rw [← w]; exact Int32.toInt_inj.mp (by rw [q]; decide +kernel))
theorem LW_at {p q : Nat} {o a lf lw lt : Nat → Int32} {n top : Int} (h : LW p q o a lf lw lt n top) {l : Int32} (hl : (p : Int) ≤ l.toInt ∧ l.toInt < p + n) : (0 ≤ (lf l.toNatClampNeg).toInt ∧ (lf l.toNatClampNeg).toInt ≤ (lw l.toNatClampNeg).toInt ∧ (lw l.toNatClampNeg).toInt ≤ (lt l.toNatClampNeg).toInt ∧ (lt l.toNatClampNeg).toInt ≤ top) ∧ DP o a (q + (lf l.toNatClampNeg).toInt.toNat) (q + (lw l.toNatClampNeg).toInt.toNat) 1 ∧ ((lw l.toNatClampNeg).toInt = (lt l.toNatClampNeg).toInt ∨ DP o a (q + (lw l.toNatClampNeg).toInt.toNat) (q + (lt l.toNatClampNeg).toInt.toNat) 1) := by
  have e := idxI (x := l) (by omega)
  have z := h (l.toNatClampNeg - p) (by omega)
  rw [show p + (l.toNatClampNeg - p) = l.toNatClampNeg from by omega] at z
  exact z
