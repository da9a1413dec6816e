def rndOK (many hs : Int) (f : Nat → Int32) : Prop := ∀ j : Nat, (j : Int) < many → -1 ≤ (f j).toInt ∧ (f j).toInt < hs
theorem rndOK_at {many hs : Int} {f : Nat → Int32} (h : rndOK many hs f) {i v : Int32} (hv : v = f i.toNatClampNeg) (hi : 0 ≤ i.toInt ∧ i.toInt < many) : -1 ≤ v.toInt ∧ v.toInt < hs := by
  have e := idxI hi.1
  rw [hv]
  exact h _ (by omega)
theorem rndOK_more {many hs k : Int} {f : Nat → Int32} (h : rndOK many hs f) (hk : hs ≤ k) : rndOK many k f := fun j hj => ⟨(h j hj).1, by have := (h j hj).2; omega⟩
