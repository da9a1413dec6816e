/-! the class's reader: texts' signs -/
theorem byt_all : (List.range 256).all (fun k => decide (((nI k &&& 255).toUInt32 % 65536).toInt32 = nI k) && decide (((nI k).toUInt32 % 65536).toInt32 = nI k) && decide (k < 128 → (nI k).toInt8.toInt32 = nI k) && decide (128 ≤ k → (nI k).toInt8.toInt32.toInt < 0)) = true := by decide +kernel
theorem byt_at {x : Int32} (h : 0 ≤ x.toInt ∧ x.toInt ≤ 255) : ((x &&& 255).toUInt32 % 65536).toInt32 = x ∧ (x.toUInt32 % 65536).toInt32 = x ∧ (x.toInt ≤ 127 → x.toInt8.toInt32 = x) ∧ (128 ≤ x.toInt → x.toInt8.toInt32.toInt < 0) := by
  obtain ⟨k, hk, rfl, e⟩ := n10 (b := 255) h (by decide)
  have q := List.all_eq_true.mp byt_all k (List.mem_range.mpr (by omega))
  rw [Bool.and_eq_true, Bool.and_eq_true, Bool.and_eq_true, decide_eq_true_iff, decide_eq_true_iff, decide_eq_true_iff, decide_eq_true_iff] at q
  exact ⟨q.1.1.1, q.1.1.2, fun z => q.1.2 (by omega), fun z => q.2 (by omega)⟩
theorem chr_id {b v1 v2 : Int32} (hb : 0 ≤ b.toInt ∧ b.toInt ≤ 127) (h1 : v1 = b &&& 255) (h2 : v2 = (v1.toUInt32 % 65536).toInt32) : v2.toInt = b.toInt := by
  rw [h2, h1, (byt_at (by omega)).1]
theorem i2c_id {x v : Int32} (hx : 0 ≤ x.toInt ∧ x.toInt ≤ 255) (h : v = (x.toUInt32 % 65536).toInt32) : v.toInt = x.toInt := by rw [h, (byt_at hx).2.1]
theorem i2b_iff {x v : Int32} {b : Int} (hx : 0 ≤ x.toInt ∧ x.toInt ≤ 255) (hv : v = x.toInt8.toInt32) (hb : 0 ≤ b ∧ b ≤ 127) : b = v.toInt ↔ b = x.toInt := by
  by_cases h : x.toInt ≤ 127
  · rw [hv, (byt_at hx).2.2.1 h]
  · have q := (byt_at hx).2.2.2 (by omega)
    rw [← hv] at q
    constructor <;> intro z <;> omega
/-- the signs of the text i -/
def sCh (i j : Nat) : Int := ((sByt.getD i []).getD j 0).toInt
def sTx (i : Nat) : List Int := (sByt.getD i []).map Int32.toInt
theorem sq_all : (List.range 7).all (fun i => (List.range 76).all (fun j => decide (0 ≤ sCh i j ∧ sCh i j ≤ 127))) = true := by decide +kernel
theorem sq_at {i : Nat} {j : Int32} (hi : i < 7) (h0 : 0 ≤ j.toInt) (hj : j.toInt < 76) : 0 ≤ sCh i j.toNatClampNeg ∧ sCh i j.toNatClampNeg ≤ 127 := by
  have q := idxI h0
  exact of_decide_eq_true (List.all_eq_true.mp (List.all_eq_true.mp sq_all i (List.mem_range.mpr hi)) j.toNatClampNeg (List.mem_range.mpr (by omega)))
/-- where a sign stands in a text -/
def SIX (i : Nat) (c : Int) (a b : Int) : Prop := ∃ j : Nat, a ≤ (j : Int) ∧ (j : Int) < b ∧ sCh i j = c
theorem six_step {i : Nat} {c a n m : Int} {x v : Int32} (h : ∀ j : Nat, a ≤ (j : Int) → (j : Int) < n → sCh i j ≠ c) (e : v = (sByt.getD i []).getD x.toNatClampNeg 0) (h0 : 0 ≤ x.toInt) (hx : x.toInt = n) (hv : v.toInt ≠ c) (hm : m = n + 1) : ∀ j : Nat, a ≤ (j : Int) → (j : Int) < m → sCh i j ≠ c := fun j h1 h2 => by
  have q := idxI h0
  by_cases hc : (j : Int) < n
  · exact h j h1 hc
  · rw [show j = x.toNatClampNeg from by omega]; unfold sCh; rw [← e]; exact hv
theorem six_6 {c : Int} {n : Int} (hn : n = 10) : SIX 6 c 0 n ↔ sgnB c = true := by
  subst hn
  constructor
  · rintro ⟨j, -, h2, h3⟩
    rw [← h3]
    have q : (List.range 10).all (fun j => sgnB (sCh 6 j)) = true := by decide +kernel
    exact List.all_eq_true.mp q j (List.mem_range.mpr (by omega))
  · intro h
    have z : c ∈ ([59, 43, 45, 42, 47, 40, 41, 60, 61, 62] : List Int) := List.contains_iff_mem.mp h
    simp only [List.mem_cons, List.not_mem_nil, or_false] at z
    rcases z with rfl | rfl | rfl | rfl | rfl | rfl | rfl | rfl | rfl | rfl
    · exact ⟨0, by omega, by omega, by decide +kernel⟩
    · exact ⟨1, by omega, by omega, by decide +kernel⟩
    · exact ⟨2, by omega, by omega, by decide +kernel⟩
    · exact ⟨3, by omega, by omega, by decide +kernel⟩
    · exact ⟨4, by omega, by omega, by decide +kernel⟩
    · exact ⟨5, by omega, by omega, by decide +kernel⟩
    · exact ⟨6, by omega, by omega, by decide +kernel⟩
    · exact ⟨7, by omega, by omega, by decide +kernel⟩
    · exact ⟨8, by omega, by omega, by decide +kernel⟩
    · exact ⟨9, by omega, by omega, by decide +kernel⟩
/-- the class's look-up, i signs on -/
def SCN (t : Nat → Int32) (a b : Int) (w : Nat) (i k s : Int) (q : Int) : Prop := scnI t a b ((sTx w).drop i.toNat) k s (decide (q = 1)) = scnI t a b (sTx w) 0 a true
theorem SCN_init {t : Nat → Int32} {a b i k s q : Int} {w : Nat} (hi : i = 0) (hk : k = 0) (hs : s = a) (hq : q = 1) : SCN t a b w i k s q := by subst hi hk hs hq; rfl
theorem sTx_len {w : Nat} (hw : w < 7) : (sTx w).length = sLen.getD w 0 := by unfold sTx; rw [List.length_map]; exact (s_all w hw).1.symm
theorem sTx_drop {w : Nat} {i : Int} (hw : w < 7) (h0 : 0 ≤ i) (hi : i < (sLen.getD w 0 : Int)) : (sTx w).drop i.toNat = sCh w i.toNat :: (sTx w).drop (i + 1).toNat := by
  rw [drop_getD (d := 0) (show i.toNat < (sTx w).length from by rw [sTx_len hw]; omega), show (i + 1).toNat = i.toNat + 1 from by omega]
  congr 1
  unfold sTx sCh
  generalize sByt.getD w [] = L
  rw [List.getD_eq_getElem?_getD, List.getElem?_map, List.getD_eq_getElem?_getD]
  cases L[i.toNat]? <;> rfl
theorem SCN_let {t : Nat → Int32} {a b i i' k s s' q q' : Int} {w : Nat} {c : Int} (h : SCN t a b w i k s q) (hw : w < 7) (h0 : 0 ≤ i) (hi : i < (sLen.getD w 0 : Int)) (hc : c = sCh w i.toNat) (h32 : c ≠ 32) (hi' : i' = i + 1) (hs' : s' = s + 1) (hq : q' = 1 ↔ (q = 1 ∧ s < b ∧ (t s.toNat).toInt = c)) : SCN t a b w i' k s' q' := by
  unfold SCN at h ⊢
  rw [sTx_drop hw h0 hi] at h
  rw [← h, hi', hs', ← hc]
  show _ = if c ≠ 32 then scnI t a b ((sTx w).drop (i + 1).toNat) k (s + 1) (decide (q = 1) && decide (s < b) && decide ((t s.toNat).toInt = c)) else _
  rw [if_pos h32]
  congr 1
  rw [Bool.eq_iff_iff, Bool.and_eq_true, Bool.and_eq_true, decide_eq_true_iff, decide_eq_true_iff, decide_eq_true_iff, decide_eq_true_iff, hq]
  exact ⟨fun z => ⟨⟨z.1, z.2.1⟩, z.2.2⟩, fun z => ⟨z.1.1, z.1.2, z.2⟩⟩
theorem SCN_sp {t : Nat → Int32} {a b i i' k k' s q : Int} {w : Nat} {c : Int} (h : SCN t a b w i k s q) (hw : w < 7) (h0 : 0 ≤ i) (hi : i < (sLen.getD w 0 : Int)) (hc : c = sCh w i.toNat) (h32 : c = 32) (hn : ¬ (q = 1 ∧ s = b)) (hi' : i' = i + 1) (hk' : k' = k + 1) : SCN t a b w i' k' a 1 := by
  unfold SCN at h ⊢
  rw [sTx_drop hw h0 hi] at h
  rw [← h, hi', hk', ← hc, h32]
  show _ = if (32 : Int) ≠ 32 then _ else if decide (q = 1) = true ∧ s = b then k else scnI t a b ((sTx w).drop (i + 1).toNat) (k + 1) a true
  rw [if_neg (fun z => z rfl), if_neg (fun z => hn ⟨of_decide_eq_true z.1, z.2⟩)]
  rfl
theorem SCN_hit {t : Nat → Int32} {a b i k s q : Int} {w : Nat} {c : Int} (h : SCN t a b w i k s q) (hw : w < 7) (h0 : 0 ≤ i) (hi : i < (sLen.getD w 0 : Int)) (hc : c = sCh w i.toNat) (h32 : c = 32) (hn : q = 1 ∧ s = b) : k = scnI t a b (sTx w) 0 a true := by
  unfold SCN at h
  rw [sTx_drop hw h0 hi, ← hc, h32] at h
  rw [← h]
  show k = if (32 : Int) ≠ 32 then _ else if decide (q = 1) = true ∧ s = b then k else _
  rw [if_neg (fun z => z rfl), if_pos ⟨decide_eq_true hn.1, hn.2⟩]
theorem SCN_end {t : Nat → Int32} {a b i k s q : Int} {w : Nat} (h : SCN t a b w i k s q) (hw : w < 7) (hi : (sLen.getD w 0 : Int) ≤ i) : scnI t a b (sTx w) 0 a true = if q = 1 ∧ s = b then k else -1 := by
  unfold SCN at h
  rw [List.drop_eq_nil_of_le (by rw [sTx_len hw]; omega)] at h
  rw [← h]
  show (if decide (q = 1) = true ∧ s = b then k else -1) = _
  by_cases z : q = 1 ∧ s = b
  · rw [if_pos ⟨decide_eq_true z.1, z.2⟩, if_pos z]
  · rw [if_neg (fun y => z ⟨of_decide_eq_true y.1, y.2⟩), if_neg z]
