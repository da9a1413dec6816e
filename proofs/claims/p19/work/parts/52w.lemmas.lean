theorem hst_w {f g : Nat → Int32} {i x : Int32} {n : Int} (e : g = upd f i.toNatClampNeg x) (h0 : 0 ≤ i.toInt) (hn : i.toInt = n) : g n.toNat = x ∧ ∀ j : Nat, j ≠ n.toNat → g j = f j := by
  have q := idxI h0
  have k : i.toNatClampNeg = n.toNat := by omega
  subst e
  rw [k]
  exact ⟨pk_us, fun j hj => pk_un hj⟩
def BUP (f g : Nat → Int32) (i : Int) (v : Int32) : Prop := g i.toNat = v ∧ ∀ j : Nat, j ≠ i.toNat → g j = f j
