/-! A ROUND's length while it is read: what it comes to when all that is open is closed -/
def FX (st tm : Nat → Int32) : Nat → Int → Int
  | 0, x => x
  | o + 1, x => FX st tm o ((st o).toInt + (x - (st o).toInt) * (tm o).toInt)
def RI (st tm : Nat → Int32) (o : Nat) (x B : Int) : Prop := (∀ j : Nat, j < o → (0 ≤ (st j).toInt ∧ (st j).toInt ≤ x) ∧ 1 ≤ (tm j).toInt ∧ (tm j).toInt ≤ 9) ∧ FX st tm o x ≤ B
theorem grow {x s t : Int} (hs : s ≤ x) (ht : 1 ≤ t) : x ≤ s + (x - s) * t := by
  have h : (x - s) * 1 ≤ (x - s) * t := Int.mul_le_mul_of_nonneg_left ht (by omega)
  omega
theorem FX_ge {st tm : Nat → Int32} : ∀ (o : Nat) (x : Int), (∀ j : Nat, j < o → (st j).toInt ≤ x ∧ 1 ≤ (tm j).toInt) → x ≤ FX st tm o x
  | 0, x, _ => Int.le_refl x
  | o + 1, x, h => by
    have h1 := h o (by omega)
    have g := grow h1.1 h1.2
    have q := FX_ge (st := st) (tm := tm) o ((st o).toInt + (x - (st o).toInt) * (tm o).toInt) (fun j hj => ⟨by have := (h j (by omega)).1; omega, (h j (by omega)).2⟩)
    show x ≤ FX st tm o _
    omega
theorem FX_add {st tm : Nat → Int32} : ∀ (o : Nat) (x d : Int), 0 ≤ d → (∀ j : Nat, j < o → 1 ≤ (tm j).toInt ∧ (tm j).toInt ≤ 9) → FX st tm o (x + d) ≤ FX st tm o x + d * 9 ^ o
  | 0, x, d, _, _ => by
    show x + d ≤ x + d * 1
    omega
  | o + 1, x, d, hd, h => by
    have h1 := h o (by omega)
    have e : (st o).toInt + (x + d - (st o).toInt) * (tm o).toInt = (st o).toInt + (x - (st o).toInt) * (tm o).toInt + d * (tm o).toInt := by
      rw [show x + d - (st o).toInt = (x - (st o).toInt) + d from by omega, Int.add_mul]; omega
    have dt : 0 ≤ d * (tm o).toInt := Int.mul_nonneg hd (by omega)
    have q := FX_add (st := st) (tm := tm) o ((st o).toInt + (x - (st o).toInt) * (tm o).toInt) (d * (tm o).toInt) dt (fun j hj => h j (by omega))
    have l : d * (tm o).toInt * 9 ^ o ≤ d * 9 * 9 ^ o := Int.mul_le_mul_of_nonneg_right (Int.mul_le_mul_of_nonneg_left h1.2 hd) (Int.pow_nonneg (by decide))
    show FX st tm o _ ≤ FX st tm o _ + d * 9 ^ (o + 1)
    rw [e, show (9 : Int) ^ (o + 1) = 9 * 9 ^ o from by rw [Int.pow_succ, Int.mul_comm], ← Int.mul_assoc]
    omega
theorem FX_same {st tm st' tm' : Nat → Int32} : ∀ (o : Nat) (x : Int), (∀ j : Nat, j < o → st' j = st j ∧ tm' j = tm j) → FX st' tm' o x = FX st tm o x
  | 0, _, _ => rfl
  | o + 1, x, h => by
    show FX st' tm' o _ = FX st tm o _
    rw [(h o (by omega)).1, (h o (by omega)).2]
    exact FX_same o _ (fun j hj => h j (by omega))
theorem RI_nil {st tm : Nat → Int32} {x B : Int} (h : x ≤ B) : RI st tm 0 x B := ⟨fun j hj => absurd hj (by omega), h⟩
theorem RI_size {st tm : Nat → Int32} {o : Nat} {x B : Int} (h : RI st tm o x B) : x ≤ B := by
  have q := FX_ge (st := st) (tm := tm) o x (fun j hj => ⟨(h.1 j hj).1.2, (h.1 j hj).2.1⟩)
  have := h.2
  omega
theorem p9_all : (List.range 5).all (fun j => decide ((9 : Int) ^ j ≤ 6561)) = true := by decide +kernel
theorem RI_add {st tm : Nat → Int32} {o : Nat} {x y d B C : Int} (h : RI st tm o x B) (ho : o ≤ 4) (hd : 0 ≤ d ∧ d ≤ 60) (hy : y = x + d) (hC : B + 393660 ≤ C) : RI st tm o y C := by
  subst hy
  have q := FX_add (st := st) (tm := tm) o x d hd.1 (fun j hj => (h.1 j hj).2)
  have b := of_decide_eq_true (List.all_eq_true.mp p9_all o (List.mem_range.mpr (by omega)))
  have l : d * 9 ^ o ≤ 60 * 6561 := Int.mul_le_mul hd.2 b (Int.pow_nonneg (by decide)) (by decide)
  have := h.2
  exact ⟨fun j hj => ⟨⟨(h.1 j hj).1.1, by have := (h.1 j hj).1.2; omega⟩, (h.1 j hj).2⟩, by omega⟩
theorem RI_more {st tm : Nat → Int32} {o : Nat} {x B C : Int} (h : RI st tm o x B) (hC : B ≤ C) : RI st tm o x C := ⟨h.1, by have := h.2; omega⟩
theorem RI_open {st tm st' tm' : Nat → Int32} {o o' : Nat} {x B : Int} {i1 i2 v w : Int32} (h : RI st tm o x B) (hx : 0 ≤ x) (e1 : st' = upd st i1.toNatClampNeg v) (e2 : tm' = upd tm i2.toNatClampNeg w) (hi1 : i1.toInt = o) (hi2 : i2.toInt = o) (hv : v.toInt = x) (hw : 1 ≤ w.toInt ∧ w.toInt ≤ 9) (ho : o' = o + 1) : RI st' tm' o' x B := by
  subst ho
  have s1 : st' o = v := us1 e1 (by omega) (by omega)
  have s2 : tm' o = w := us1 e2 (by omega) (by omega)
  have u : ∀ j : Nat, j < o → st' j = st j ∧ tm' j = tm j := fun j hj => ⟨un1 e1 (by omega) (by omega), un1 e2 (by omega) (by omega)⟩
  refine ⟨fun j hj => ?_, ?_⟩
  · by_cases q : j = o
    · subst q; rw [s1, s2]; exact ⟨⟨by omega, by omega⟩, hw⟩
    · rw [(u j (by omega)).1, (u j (by omega)).2]; exact h.1 j (by omega)
  · show FX st' tm' o _ ≤ B
    rw [s1, s2, hv, show x + (x - x) * w.toInt = x from by rw [Int.sub_self, Int.zero_mul]; omega, FX_same o x u]
    exact h.2
theorem RI_close {st tm : Nat → Int32} {o o' : Nat} {x y B : Int} (h : RI st tm o x B) (ho : o = o' + 1) (hy : y = (st o').toInt + (x - (st o').toInt) * (tm o').toInt) : RI st tm o' y B := by
  subst ho; subst hy
  have h1 := h.1 o' (by omega)
  have g := grow h1.1.2 h1.2.1
  exact ⟨fun j hj => ⟨⟨(h.1 j (by omega)).1.1, by have := (h.1 j (by omega)).1.2; omega⟩, (h.1 j (by omega)).2⟩, h.2⟩
theorem mulBE {x y : Int32} {a b : Int} (hx : 0 ≤ x.toInt ∧ x.toInt ≤ a) (hy : 0 ≤ y.toInt ∧ y.toInt ≤ b) (hn : a * b ≤ 2147483647) : (x * y).toInt = x.toInt * y.toInt := by
  have h0 : 0 ≤ x.toInt * y.toInt := Int.mul_nonneg hx.1 hy.1
  have h1 : x.toInt * y.toInt ≤ a * b := Int.mul_le_mul hx.2 hy.2 hy.1 (by omega)
  exact mulI ⟨by omega, by omega⟩
