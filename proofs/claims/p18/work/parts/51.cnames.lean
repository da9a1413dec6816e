def RJ9 : String := "java/lang/Math"
abbrev cJ9_abs_0f7a4 : ByteArray := prog_16_method_59_code
def yJ9_abs_0f7a4 : MethodName := ⟨RJ9, "abs", "(I)I"⟩
abbrev cJ9_max_7cf53 : ByteArray := prog_16_method_65_code
def yJ9_max_7cf53 : MethodName := ⟨RJ9, "max", "(II)I"⟩
abbrev cJ9_max_f86c9 : ByteArray := prog_16_method_66_code
def yJ9_max_f86c9 : MethodName := ⟨RJ9, "max", "(JJ)J"⟩
abbrev cJ9_min_7cf53 : ByteArray := prog_16_method_69_code
def yJ9_min_7cf53 : MethodName := ⟨RJ9, "min", "(II)I"⟩
def RJ0 : String := "java/lang/String"
abbrev cJ0_length_8abf5 : ByteArray := prog_17_method_54_code
def yJ0_length_8abf5 : MethodName := ⟨RJ0, "length", "()I"⟩
abbrev cJ0_charAt_5068e : ByteArray := prog_17_method_56_code
def yJ0_charAt_5068e : MethodName := ⟨RJ0, "charAt", "(I)C"⟩
abbrev cJ0_indexOf_0f7a4 : ByteArray := prog_17_method_79_code
def yJ0_indexOf_0f7a4 : MethodName := ⟨RJ0, "indexOf", "(I)I"⟩
abbrev cJ0_indexOf_7cf53 : ByteArray := prog_17_method_80_code
def yJ0_indexOf_7cf53 : MethodName := ⟨RJ0, "indexOf", "(II)I"⟩
abbrev cJ0_coder_7d493 : ByteArray := prog_17_method_152_code
def yJ0_coder_7d493 : MethodName := ⟨RJ0, "coder", "()B"⟩
abbrev cJ0_isLatin1_aae02 : ByteArray := prog_17_method_154_code
def yJ0_isLatin1_aae02 : MethodName := ⟨RJ0, "isLatin1", "()Z"⟩
abbrev cJ0_checkIndex_df160 : ByteArray := prog_17_method_155_code
def yJ0_checkIndex_df160 : MethodName := ⟨RJ0, "checkIndex", "(II)V"⟩
def RJ1 : String := "java/lang/StringLatin1"
abbrev cJ1_charAt_3b067 : ByteArray := prog_18_method_2_code
def yJ1_charAt_3b067 : MethodName := ⟨RJ1, "charAt", "([BI)C"⟩
abbrev cJ1_canEncode_9a6ad : ByteArray := prog_18_method_4_code
def yJ1_canEncode_9a6ad : MethodName := ⟨RJ1, "canEncode", "(I)Z"⟩
abbrev cJ1_indexOf_4cfef : ByteArray := prog_18_method_22_code
def yJ1_indexOf_4cfef : MethodName := ⟨RJ1, "indexOf", "([BIII)I"⟩
abbrev cJ1_indexOfChar_4cfef : ByteArray := prog_18_method_23_code
def yJ1_indexOfChar_4cfef : MethodName := ⟨RJ1, "indexOfChar", "([BIII)I"⟩
def RJ3 : String := "jdk/internal/util/Preconditions"
abbrev cJ3_checkIndex_8e157 : ByteArray := prog_21_method_11_code
def yJ3_checkIndex_8e157 : MethodName := ⟨RJ3, "checkIndex", "(IILjava/util/function/BiFunction;)I"⟩
theorem mulB {x y : Int32} {a b n : Int} (hx : 0 ≤ x.toInt ∧ x.toInt ≤ a) (hy : 0 ≤ y.toInt ∧ y.toInt ≤ b) (hn : a * b ≤ n ∧ n ≤ 2147483647) : 0 ≤ (x * y).toInt ∧ (x * y).toInt ≤ n := by
  have h0 : 0 ≤ x.toInt * y.toInt := Int.mul_nonneg hx.1 hy.1
  have h1 : x.toInt * y.toInt ≤ a * b := Int.mul_le_mul hx.2 hy.2 hy.1 (by omega)
  rw [mulI ⟨by omega, by omega⟩]
  exact ⟨h0, by omega⟩
theorem allR_cp {n : Nat} {lo hi : Int} {f g : Nat → Int32} (h : allR n lo hi f) (e : ∀ j : Nat, j < n → g j = f j) : allR n lo hi g := fun j hj => by
  rw [e j hj]; exact h j hj
theorem swt {x : Int32} (lo hi : Int) : (x.toInt < lo ∨ hi < x.toInt) ∨ ∃ k : Int, lo ≤ k ∧ k ≤ hi ∧ x.toInt = k := by
  by_cases h : x.toInt < lo ∨ hi < x.toInt
  · exact Or.inl h
  · exact Or.inr ⟨x.toInt, by omega, by omega, rfl⟩
abbrev p9 (f : Nat → Int32) : Prop := allR 40 0 9 f
abbrev m4 (f : Nat → Int32) : Prop := allR 33 0 400 f
/-! texts by their numbers; opaque values -/
def ti (x : Int32) : Nat := x.toNatClampNeg
theorem ti_lt {x : Int32} (h : 0 ≤ x.toInt ∧ x.toInt ≤ 6) : ti x < 7 := by
  have e := idxI h.1
  show x.toNatClampNeg < 7
  omega
def vl (L : List Value) : Nat → Value := fun k => L.getD k .null
