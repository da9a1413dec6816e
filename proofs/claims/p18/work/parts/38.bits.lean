/-! sets as numbers below 1024 -/
theorem nat_lt {x : Int32} (h : 0 ≤ x.toInt) : x.toBitVec.toNat < 2 ^ 31 ∧ x.toInt = (x.toBitVec.toNat : Int) := by
  have e : x.toInt = x.toBitVec.toInt := rfl
  have c := BitVec.toInt_eq_toNat_cond x.toBitVec
  have l := x.toBitVec.isLt
  rw [e] at h ⊢
  split at c <;> omega
theorem of_nat {x : Int32} {n : Nat} (h : x.toBitVec.toNat = n) (hn : n < 2 ^ 31) : x.toInt = (n : Int) := by
  have e : x.toInt = x.toBitVec.toInt := rfl
  have c := BitVec.toInt_eq_toNat_cond x.toBitVec
  rw [e]
  split at c <;> omega
theorem and10 {x y : Int32} (h : 0 ≤ x.toInt) : 0 ≤ (x &&& y).toInt ∧ (x &&& y).toInt ≤ x.toInt := by
  have a := nat_lt h
  have e : (x &&& y).toBitVec.toNat = x.toBitVec.toNat &&& y.toBitVec.toNat := by
    rw [Int32.toBitVec_and, BitVec.toNat_and]
  have l : x.toBitVec.toNat &&& y.toBitVec.toNat ≤ x.toBitVec.toNat := Nat.and_le_left
  have q := of_nat e (by omega)
  omega
theorem and10r {x y : Int32} (h : 0 ≤ y.toInt) : 0 ≤ (x &&& y).toInt ∧ (x &&& y).toInt ≤ y.toInt := by
  have a := nat_lt h
  have e : (x &&& y).toBitVec.toNat = x.toBitVec.toNat &&& y.toBitVec.toNat := by
    rw [Int32.toBitVec_and, BitVec.toNat_and]
  have l : x.toBitVec.toNat &&& y.toBitVec.toNat ≤ y.toBitVec.toNat := Nat.and_le_right
  have q := of_nat e (by omega)
  omega
theorem or10 {x y : Int32} (h : 0 ≤ x.toInt ∧ x.toInt ≤ 1023) (h2 : 0 ≤ y.toInt ∧ y.toInt ≤ 1023) : 0 ≤ (x ||| y).toInt ∧ (x ||| y).toInt ≤ 1023 := by
  have a := nat_lt h.1
  have b := nat_lt h2.1
  have e : (x ||| y).toBitVec.toNat = x.toBitVec.toNat ||| y.toBitVec.toNat := by
    rw [Int32.toBitVec_or, BitVec.toNat_or]
  have l : x.toBitVec.toNat ||| y.toBitVec.toNat < 2 ^ 10 := Nat.or_lt_two_pow (by omega) (by omega)
  have q := of_nat e (by omega)
  omega
theorem n10 {y : Int32} {b : Nat} (h : 0 ≤ y.toInt ∧ y.toInt ≤ b) (hb : b < 2 ^ 31) : ∃ j : Nat, j ≤ b ∧ y = nI j ∧ y.toInt.toNat = j := by
  obtain ⟨j, hj, rfl⟩ := nI_of (b_nlt (x := y) (y := 0) (by have k : (0 : Int32).toInt = 0 := (by decide +kernel); omega))
  rw [nI_toInt hj] at h ⊢
  exact ⟨j, by omega, rfl, by omega⟩
theorem shl_all : (List.range 11).all (fun j => decide (1 ≤ ((1 : Int32) <<< (nI j &&& 31)).toInt ∧ ((1 : Int32) <<< (nI j &&& 31)).toInt ≤ 1024 ∧ (j ≤ 9 → ((1 : Int32) <<< (nI j &&& 31)).toInt ≤ 512))) = true := by decide +kernel
theorem shl10 {y : Int32} (h : 0 ≤ y.toInt ∧ y.toInt ≤ 10) : 1 ≤ ((1 : Int32) <<< (y &&& 31)).toInt ∧ ((1 : Int32) <<< (y &&& 31)).toInt ≤ 1024 := by
  obtain ⟨j, hj, rfl, -⟩ := n10 (b := 10) h (by decide)
  have q := of_decide_eq_true (List.all_eq_true.mp shl_all j (List.mem_range.mpr (by omega)))
  exact ⟨q.1, q.2.1⟩
theorem shl9 {y : Int32} (h : 0 ≤ y.toInt ∧ y.toInt ≤ 9) : 1 ≤ ((1 : Int32) <<< (y &&& 31)).toInt ∧ ((1 : Int32) <<< (y &&& 31)).toInt ≤ 512 := by
  obtain ⟨j, hj, rfl, -⟩ := n10 (b := 9) h (by decide)
  have q := of_decide_eq_true (List.all_eq_true.mp shl_all j (List.mem_range.mpr (by omega)))
  exact ⟨q.1, q.2.2 hj⟩
theorem low_all : (List.range 1024).all (fun a => (List.range 10).all (fun j => decide (((nI a >>> (nI j &&& 31)) &&& 1).toInt = 0 → a.testBit j = false))) = true := by decide +kernel
theorem low_bit {x k v w : Int32} (hv : v = x >>> (k &&& 31)) (hw : w = v &&& 1) (hx : 0 ≤ x.toInt ∧ x.toInt ≤ 1023) (hk : 0 ≤ k.toInt ∧ k.toInt ≤ 9) (h0 : w.toInt = 0) : x.toInt.toNat.testBit k.toInt.toNat = false := by
  obtain ⟨a, ha, rfl, ea⟩ := n10 (b := 1023) hx (by decide)
  obtain ⟨j, hj, rfl, ej⟩ := n10 (b := 9) hk (by decide)
  rw [ea, ej]
  have q := List.all_eq_true.mp (List.all_eq_true.mp low_all a (List.mem_range.mpr (by omega))) j (List.mem_range.mpr (by omega))
  exact of_decide_eq_true q (by rw [← hv, ← hw]; exact h0)
theorem low_end {x k v w : Int32} (h : ∀ j : Nat, (j : Int) < k.toInt → x.toInt.toNat.testBit j = false) (hv : v = x >>> (k &&& 31)) (hw : w = v &&& 1) (hx : 1 ≤ x.toInt ∧ x.toInt ≤ 1023) (hk : 0 ≤ k.toInt ∧ k.toInt ≤ 9) (h0 : w.toInt = 0) : ¬ k.toInt = 9 := by
  intro e
  have b := low_bit hv hw (by omega) hk h0
  have z : x.toInt.toNat = 0 := by
    apply Nat.eq_of_testBit_eq
    intro i
    rw [Nat.zero_testBit]
    by_cases q : (i : Int) < k.toInt
    · exact h i q
    · by_cases q2 : i = k.toInt.toNat
      · rw [q2]; exact b
      · exact Nat.testBit_lt_two_pow (Nat.lt_of_lt_of_le (show x.toInt.toNat < 2 ^ 10 by omega) (Nat.pow_le_pow_right (by decide) (by omega)))
  omega
theorem low_step {x k v w k' : Int32} (h : ∀ j : Nat, (j : Int) < k.toInt → x.toInt.toNat.testBit j = false) (hv : v = x >>> (k &&& 31)) (hw : w = v &&& 1) (hx : 1 ≤ x.toInt ∧ x.toInt ≤ 1023) (hk : 0 ≤ k.toInt ∧ k.toInt ≤ 9) (h0 : w.toInt = 0) (hk' : k'.toInt = k.toInt + 1) : ∀ j : Nat, (j : Int) < k'.toInt → x.toInt.toNat.testBit j = false := by
  have b := low_bit hv hw (by omega) hk h0
  intro j hj
  by_cases q : (j : Int) < k.toInt
  · exact h j q
  · rw [show j = k.toInt.toNat from by omega]; exact b
theorem pplOK_at {hs : Int} {f : Nat → Int32} (h : pplOK hs f) {i v : Int32} (hv : v = f i.toNatClampNeg) (hi : 0 ≤ i.toInt ∧ i.toInt < hs) : 1 ≤ v.toInt ∧ v.toInt ≤ 20 := by
  have e := idxI hi.1
  rw [hv]
  exact h _ (by omega)
def sumM (f : Nat → Int32) : Int := (2147483647 - (f 0).toInt) + (2147483647 - (f 1).toInt) + (2147483647 - (f 2).toInt) + (2147483647 - (f 3).toInt) + (2147483647 - (f 4).toInt) + (2147483647 - (f 5).toInt) + (2147483647 - (f 6).toInt) + (2147483647 - (f 7).toInt) + (2147483647 - (f 8).toInt) + (2147483647 - (f 9).toInt)
theorem i32_le (x : Int32) : x.toInt ≤ 2147483647 := by
  have := Int32.toInt_lt x
  omega
theorem sumM_nn (f : Nat → Int32) : 0 ≤ sumM f := by
  unfold sumM
  have h0 := i32_le (f 0); have h1 := i32_le (f 1); have h2 := i32_le (f 2); have h3 := i32_le (f 3); have h4 := i32_le (f 4)
  have h5 := i32_le (f 5); have h6 := i32_le (f 6); have h7 := i32_le (f 7); have h8 := i32_le (f 8); have h9 := i32_le (f 9)
  omega
theorem sumM_upd {f g : Nat → Int32} {i x v : Int32} {j : Int32} (e : g = upd f i.toNatClampNeg x) (hv : v = f j.toNatClampNeg) (hj : j.toInt = i.toInt) (hi : 0 ≤ i.toInt ∧ i.toInt ≤ 9) (hx : v.toInt < x.toInt) : sumM g + 1 ≤ sumM f := by
  have q := idxI hi.1
  have q2 := idxI (x := j) (by omega)
  rw [show j.toNatClampNeg = i.toNatClampNeg from by omega] at hv
  have c : ∀ k : Nat, (k = i.toNatClampNeg → (g k).toInt ≥ (f k).toInt + 1) ∧ (¬ k = i.toNatClampNeg → (g k).toInt = (f k).toInt) := fun k => by
    refine ⟨fun h => ?_, fun h => ?_⟩
    · subst h; rw [e, pk_us, ← hv]; omega
    · rw [e, pk_un h]
  have h0 := c 0; have h1 := c 1; have h2 := c 2; have h3 := c 3; have h4 := c 4
  have h5 := c 5; have h6 := c 6; have h7 := c 7; have h8 := c 8; have h9 := c 9
  clear c e hv
  unfold sumM
  generalize i.toNatClampNeg = n at *
  have hn : n = 0 ∨ n = 1 ∨ n = 2 ∨ n = 3 ∨ n = 4 ∨ n = 5 ∨ n = 6 ∨ n = 7 ∨ n = 8 ∨ n = 9 := by omega
  rcases hn with rfl | rfl | rfl | rfl | rfl | rfl | rfl | rfl | rfl | rfl <;> simp at h0 h1 h2 h3 h4 h5 h6 h7 h8 h9 <;> omega
