def rowsOK (und hs : Int) (f : Nat → Int32) : Prop := ∀ u : Nat, (u : Int) < und → (0 ≤ (f (66 * u + 2)).toInt ∧ (f (66 * u + 2)).toInt ≤ 150) ∧ (0 ≤ (f (66 * u + 3)).toInt ∧ (f (66 * u + 3)).toInt < hs) ∧ 0 ≤ (f (66 * u + 5)).toInt ∧ (f (66 * u + 5)).toInt ≤ 200
theorem rowsOK_less {a b hs : Int} {f : Nat → Int32} (h : rowsOK a hs f) (hb : b ≤ a) : rowsOK b hs f := fun u hu => h u (by omega)
theorem rowsOK_nil {a hs : Int} {f : Nat → Int32} (h : a ≤ 0) : rowsOK a hs f := fun u hu => absurd hu (by omega)
def SH (g f : Nat → Int32) (n : Int) : Prop := (∀ j : Nat, (j : Int) < n → g j = f (66 + j)) ∧ ∀ j : Nat, n ≤ (j : Int) → g j = f j
theorem SH_nil {f : Nat → Int32} {n : Int} (h : n = 0) : SH f f n := ⟨fun j hj => absurd hj (by omega), fun _ _ => rfl⟩
theorem SH_step {g g' f : Nat → Int32} {i d e x j : Int32} (h : SH g f i.toInt) (hg : g' = upd g d.toNatClampNeg x) (hx : x = g e.toNatClampNeg) (hd : d.toInt = i.toInt) (he : e.toInt = i.toInt + 66) (h0 : 0 ≤ i.toInt) (hj : j.toInt = i.toInt + 1) : SH g' f j.toInt := by
  have e1 := idxI (x := d) (by omega)
  have e2 := idxI (x := e) (by omega)
  refine ⟨fun k hk => ?_, fun k hk => ?_⟩
  · rw [hg]
    by_cases q : (k : Int) < i.toInt
    · rw [pk_un (by omega)]; exact h.1 k q
    · rw [show k = d.toNatClampNeg from by omega, pk_us, hx, h.2 _ (by omega)]
      congr 1; omega
  · rw [hg, pk_un (by omega)]; exact h.2 k (by omega)
theorem rowsOK_SH {g f : Nat → Int32} {n a b hs : Int} (h : SH g f n) (hf : rowsOK a hs f) (hn : 66 * b ≤ n) (hb : b + 1 ≤ a) : rowsOK b hs g := by
  intro u hu
  have q := hf (u + 1) (by omega)
  rw [h.1 (66 * u + 2) (by omega), h.1 (66 * u + 3) (by omega), h.1 (66 * u + 5) (by omega), show 66 + (66 * u + 2) = 66 * (u + 1) + 2 from by omega, show 66 + (66 * u + 3) = 66 * (u + 1) + 3 from by omega, show 66 + (66 * u + 5) = 66 * (u + 1) + 5 from by omega]
  exact q
def KP (g f w : Nat → Int32) (b : Nat) (n : Int) : Prop := (∀ j : Nat, j < b → g j = f j) ∧ ∀ j : Nat, (j : Int) < n → g (b + j) = w j
theorem KP_nil {f w : Nat → Int32} {b : Nat} {n : Int} (h : n = 0) : KP f f w b n := ⟨fun _ _ => rfl, fun j hj => absurd hj (by omega)⟩
theorem KP_step {g g' f w : Nat → Int32} {b : Nat} {i d e x j : Int32} (h : KP g f w b i.toInt) (hg : g' = upd g d.toNatClampNeg x) (hx : x = w e.toNatClampNeg) (hd : d.toInt = b + i.toInt) (he : e.toInt = i.toInt) (h0 : 0 ≤ i.toInt) (hj : j.toInt = i.toInt + 1) : KP g' f w b j.toInt := by
  have e1 := idxI (x := d) (by omega)
  have e2 := idxI (x := e) (by omega)
  refine ⟨fun k hk => ?_, fun k hk => ?_⟩
  · rw [hg, pk_un (by omega)]; exact h.1 k hk
  · rw [hg]
    by_cases q : (k : Int) < i.toInt
    · rw [pk_un (by omega)]; exact h.2 k q
    · rw [show b + k = d.toNatClampNeg from by omega, pk_us, hx, show k = e.toNatClampNeg from by omega]
theorem rowsOK_KP {g f w : Nat → Int32} {b : Nat} {n a hs : Int} (h : KP g f w b n) (hf : rowsOK a hs f) (hb : (b : Int) = 66 * a) (hn : 66 ≤ n) (h2 : 0 ≤ (w 2).toInt ∧ (w 2).toInt ≤ 150) (h3 : 0 ≤ (w 3).toInt ∧ (w 3).toInt < hs) (h5 : 0 ≤ (w 5).toInt ∧ (w 5).toInt ≤ 200) : rowsOK (a + 1) hs g := by
  intro u hu
  by_cases q : (u : Int) < a
  · have z := hf u q
    rw [h.1 _ (by omega), h.1 _ (by omega), h.1 _ (by omega)]
    exact z
  · rw [show 66 * u + 2 = b + 2 from by omega, show 66 * u + 3 = b + 3 from by omega, show 66 * u + 5 = b + 5 from by omega, h.2 2 (by omega), h.2 3 (by omega), h.2 5 (by omega)]
    exact ⟨h2, h3, h5⟩
