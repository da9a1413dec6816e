/-! nights that are kept: the k-th of u bears the night's number less u - k -/
def RKN (u n : Int) (f : Nat → Int32) : Prop := ∀ k : Nat, (k : Int) < u → (f (66 * k)).toInt = n - (u - (k : Int))
theorem RKN_nil {u n : Int} {f : Nat → Int32} (h : u ≤ 0) : RKN u n f := fun k hk => absurd hk (by omega)
theorem RKN_eq {u n u' n' : Int} {f : Nat → Int32} (h : RKN u n f) (hu : u' = u) (hn : n' = n) : RKN u' n' f := by subst hu hn; exact h
theorem RKN_less {u n u' n' : Int} {f : Nat → Int32} (h : RKN u n f) (hu : u' = u - 1) (hn : n' = n - 1) : RKN u' n' f := fun k hk => by
  have q := h k (by omega)
  omega
theorem RKN_up {u n n' : Int} {f : Nat → Int32} (h : ∀ k : Nat, (k : Int) < u → (f (66 * k)).toInt = n - (u - 1 - (k : Int))) (hn : n' = n + 1) : RKN u n' f := fun k hk => by
  have q := h k hk
  omega
theorem RKN_SH {g f : Nat → Int32} {n a b m : Int} (h : SH g f m) (hf : RKN a n f) (hm : 66 * b ≤ m) (hb : a = b + 1) : ∀ k : Nat, (k : Int) < b → (g (66 * k)).toInt = n - (b - (k : Int)) := fun k hk => by
  have q := hf (k + 1) (by omega)
  rw [h.1 (66 * k) (by omega), show 66 + 66 * k = 66 * (k + 1) from by omega]
  omega
theorem RKN_KP {g f w : Nat → Int32} {b : Nat} {m a u n : Int} (h : KP g f w b m) (hf : ∀ k : Nat, (k : Int) < a → (f (66 * k)).toInt = n - (a - (k : Int))) (hb : (b : Int) = 66 * a) (hm : 66 ≤ m) (hu : u = a + 1) (h0 : 0 ≤ a) (hn : (w 0).toInt = n) : ∀ k : Nat, (k : Int) < u → (g (66 * k)).toInt = n - (u - 1 - (k : Int)) := fun k hk => by
  by_cases q : (k : Int) < a
  · rw [h.1 (66 * k) (by omega), hf k q]; omega
  · have z := h.2 0 (by omega)
    rw [show 66 * k = b + 0 from by omega, z, hn]; omega
/-- what set takes -/
def SETC (h what who v : Int) : Prop := (what = 0 ∧ 0 ≤ v ∧ v ≤ 9) ∨ (what = 1 ∧ 0 ≤ v ∧ v ≤ 1000) ∨ (what = 2 ∧ 0 ≤ v ∧ v ≤ 99) ∨ ((what = 3 ∨ what = 4) ∧ 1 ≤ v ∧ v ≤ 99) ∨ (what = 5 ∧ 0 ≤ v ∧ v < h) ∨ ((0 ≤ who ∧ who < h) ∧ ((what = 6 ∧ 1 ≤ v ∧ v ≤ 20) ∨ (what = 7 ∧ 0 ≤ v ∧ v ≤ 999) ∨ ((what = 8 ∨ what = 9) ∧ 0 ≤ v ∧ v ≤ 99) ∨ (what = 10 ∧ 0 ≤ v ∧ v ≤ 9999)))
def FRDC (h a b : Int) : Prop := (0 ≤ a ∧ a < h) ∧ (0 ≤ b ∧ b < h) ∧ a ≠ b
def NGC (h n m : Int) : Prop := (1 ≤ m ∧ m ≤ 60) ∧ h ≠ 0 ∧ n + m ≤ 9999
