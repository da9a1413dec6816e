/-- the nights' rows that are kept: their lines of THE BOOK, THE LAMP's HOUSE and the place in A ROUND are within bounds -/
def rowsOK (und hs : Int) (f : Nat → Int32) : Prop := ∀ u : Nat, (u : Int) < und → (0 ≤ (f (66 * u + 2)).toInt ∧ (f (66 * u + 2)).toInt ≤ 150) ∧ (0 ≤ (f (66 * u + 3)).toInt ∧ (f (66 * u + 3)).toInt < hs) ∧ 0 ≤ (f (66 * u + 5)).toInt ∧ (f (66 * u + 5)).toInt ≤ 200
theorem rowsOK_less {a b hs : Int} {f : Nat → Int32} (h : rowsOK a hs f) (hb : b ≤ a) : rowsOK b hs f := fun u hu => h u (by omega)
theorem rowsOK_more {a hs k : Int} {f : Nat → Int32} (h : rowsOK a hs f) (hk : hs ≤ k) : rowsOK a k f := fun u hu => ⟨(h u hu).1, ⟨(h u hu).2.1.1, by have := (h u hu).2.1.2; omega⟩, (h u hu).2.2⟩
theorem rowsOK_nil {a hs : Int} {f : Nat → Int32} (h : a ≤ 0) : rowsOK a hs f := fun u hu => absurd hu (by omega)
