/-! p23: houses, places and clues on both sides -/
def FREE (n : Int) (pl : Nat → Int32) (w : Int) : Prop := 0 ≤ w ∧ w ≤ 63 ∧ ∀ j : Nat, (j : Int) < n → (pl j).toInt ≠ w
def HOK (n : Int) (pl : Nat → Int32) (w pe oi : Int) : Prop := (1 ≤ pe ∧ pe ≤ 20) ∧ (0 ≤ oi ∧ oi ≤ 999) ∧ n ≤ 9 ∧ FREE n pl w
def HST (n n' : Int) (pl pl' : Nat → Int32) (w : Int32) (pe oi : Int) : Prop := (HOK n pl w.toInt pe oi ∧ n' = n + 1 ∧ pl' n.toNat = w ∧ ∀ j : Nat, j ≠ n.toNat → pl' j = pl j) ∨ (¬ HOK n pl w.toInt pe oi ∧ n' = n ∧ pl' = pl)
def COK (p night set c : Int) : Prop := (0 ≤ night ∧ night ≤ 9) ∧ 1 ≤ set ∧ set < p ∧ c ≤ 7
def CST (p night set c c' r : Int) : Prop := (night = -1 ∧ r = 0 ∧ c' = 0) ∨ (night ≠ -1 ∧ COK p night set c ∧ r = c + 1 ∧ c' = c + 1) ∨ (night ≠ -1 ∧ ¬ COK p night set c ∧ r = -1 ∧ c' = c)
def sh1 (n : Int32) : Int := ((1 : Int32) <<< (n &&& 31)).toInt
def EQ10 (g f : Nat → Int32) : Prop := ∀ j : Nat, j < 10 → g j = f j
theorem hst_w {f g : Nat → Int32} {i x : Int32} {n : Int} (e : g = upd f i.toNatClampNeg x) (h0 : 0 ≤ i.toInt) (hn : i.toInt = n) : g n.toNat = x ∧ ∀ j : Nat, j ≠ n.toNat → g j = f j := by
  have q := idxI h0
  have k : i.toNatClampNeg = n.toNat := by omega
  subst e
  rw [k]
  exact ⟨pk_us, fun j hj => pk_un hj⟩
theorem free_step {pl : Nat → Int32} {w : Int} {i v : Int32} {n m : Int} (h : ∀ j : Nat, (j : Int) < n → (pl j).toInt ≠ w) (e : v = pl i.toNatClampNeg) (h0 : 0 ≤ i.toInt) (hi : i.toInt = n) (hv : v.toInt ≠ w) (hm : m = n + 1) : ∀ j : Nat, (j : Int) < m → (pl j).toInt ≠ w := fun j hj => by
  have q := idxI h0
  by_cases hc : (j : Int) < n
  · exact h j hc
  · rw [show j = i.toNatClampNeg from by omega, ← e]
    exact hv
theorem free_hit {pl : Nat → Int32} {w : Int} {i v : Int32} {n : Int} (h : FREE n pl w) (e : v = pl i.toNatClampNeg) (h0 : 0 ≤ i.toInt) (hi : i.toInt < n) (hv : v.toInt = w) : False := by
  have q := idxI h0
  exact h.2.2 i.toNatClampNeg (by omega) (by rw [← e]; exact hv)
theorem msk_all : (List.range 11).all (fun j => (List.range 32).all (fun i => decide (((((1 : Int32) <<< (nI j &&& 31)) - 1) ^^^ (-1)).toBitVec.getLsbD i = decide (j ≤ i)))) = true := by decide +kernel
theorem shp_all : (List.range 11).all (fun j => decide (((1 : Int32) <<< (nI j &&& 31)).toInt = ((2 ^ j : Nat) : Int))) = true := by decide +kernel
theorem and_all {n st a x w : Int32} (hn : 0 ≤ n.toInt ∧ n.toInt ≤ 10) (ha : a.toInt = sh1 n - 1) (hx : x = a ^^^ (-1)) (hw : w = st &&& x) : w.toInt = 0 ↔ (0 ≤ st.toInt ∧ st.toInt < sh1 n) := by
  obtain ⟨j, hj, rfl, -⟩ := n10 (b := 10) hn (by decide)
  have hs : sh1 (nI j) = ((2 ^ j : Nat) : Int) := of_decide_eq_true (List.all_eq_true.mp shp_all j (List.mem_range.mpr (by omega)))
  have hp : (2 ^ j : Nat) ≤ 2 ^ 10 := Nat.pow_le_pow_right (by decide) hj
  have hm : ∀ i : Nat, i < 32 → ((((1 : Int32) <<< (nI j &&& 31)) - 1) ^^^ (-1)).toBitVec.getLsbD i = decide (j ≤ i) := fun i hi => of_decide_eq_true (List.all_eq_true.mp (List.all_eq_true.mp msk_all j (List.mem_range.mpr (by omega))) i (List.mem_range.mpr hi))
  have hsb : 1 ≤ sh1 (nI j) ∧ sh1 (nI j) ≤ 1024 := shl10 hn
  have ea : a = ((1 : Int32) <<< (nI j &&& 31)) - 1 := Int32.toInt_inj.mp (by
    rw [ha]
    have k := subE (x := (1 : Int32) <<< (nI j &&& 31)) (y := 1) (a := sh1 (nI j)) (b := 1) rfl (by decide +kernel) (by omega)
    rw [k])
  rw [← ea, ← hx] at hm
  have hb : w.toInt = 0 ↔ st.toBitVec.toNat < 2 ^ j := by
    constructor
    · intro h
      have h0 : w.toBitVec = 0#32 := by
        have : w = 0 := Int32.toInt_inj.mp (by rw [h]; decide +kernel)
        rw [this]; rfl
      apply Nat.lt_pow_two_of_testBit
      intro i hi
      by_cases hc : i < 32
      · have q : w.toBitVec.getLsbD i = (st.toBitVec.getLsbD i && x.toBitVec.getLsbD i) := by rw [hw, Int32.toBitVec_and, BitVec.getLsbD_and]
        have hd : decide (j ≤ i) = true := decide_eq_true hi
        rw [h0, hm i hc, hd, Bool.and_true] at q
        have q2 : st.toBitVec.getLsbD i = false := by rw [← q]; exact BitVec.getLsbD_zero
        exact q2
      · exact Nat.testBit_lt_two_pow (Nat.lt_of_lt_of_le st.toBitVec.isLt (Nat.pow_le_pow_right (by decide) (by omega)))
    · intro h
      have h0 : w.toBitVec = 0#32 := by
        apply BitVec.eq_of_getLsbD_eq
        intro i hi
        rw [hw, Int32.toBitVec_and, BitVec.getLsbD_and, hm i hi, BitVec.getLsbD_zero]
        by_cases hc : j ≤ i
        · have q : st.toBitVec.getLsbD i = false := Nat.testBit_lt_two_pow (Nat.lt_of_lt_of_le h (Nat.pow_le_pow_right (by decide) hc))
          rw [q]; rfl
        · rw [decide_eq_false hc, Bool.and_false]
      have : w = 0 := Int32.toBitVec_inj.mp (by rw [h0]; rfl)
      rw [this]; decide +kernel
  rw [hb, hs]
  have hl : st.toBitVec.toNat < 2 ^ 32 := st.toBitVec.isLt
  have ht : st.toInt = if 2 * st.toBitVec.toNat < 2 ^ 32 then (st.toBitVec.toNat : Int) else (st.toBitVec.toNat : Int) - ((2 ^ 32 : Nat) : Int) := BitVec.toInt_eq_toNat_cond st.toBitVec
  constructor
  · intro h
    rw [if_pos (by omega)] at ht
    omega
  · intro h
    by_cases hc : 2 * st.toBitVec.toNat < 2 ^ 32
    · rw [if_pos hc] at ht; omega
    · rw [if_neg hc] at ht; omega
theorem all_sh {c v : Int32} (hv : v = (1 : Int32) <<< (c &&& 31)) : v.toInt = sh1 c := by rw [hv]; rfl
abbrev KV := Int32 × (Nat → Int32) × Int32
abbrev KT := KV × Option KV
def KH (t : KV) (n : Int32) (g : Nat → Int32) (c : Int32) : Prop := n = t.1 ∧ c = t.2.2 ∧ ∀ j : Nat, (j : Int) < t.1.toInt → g j = t.2.1 j
theorem KH_eq {t : KV} {n n' c c' : Int32} {g g' : Nat → Int32} (h : KH t n g c) (e1 : n' = n) (e2 : g' = g) (e3 : c' = c) : KH t n' g' c' := by subst e1 e2 e3; exact h
theorem KH_cp {t : KV} {n n' c c' : Int32} {g g' : Nat → Int32} (h : KH t n g c) (hn : n.toInt ≤ 10) (e1 : n'.toInt = n.toInt) (e2 : EQ10 g' g) (e3 : c'.toInt = c.toInt) : KH t n' g' c' := by
  obtain rfl := Int32.toInt_inj.mp e1
  obtain rfl := Int32.toInt_inj.mp e3
  obtain ⟨rfl, rfl, h3⟩ := h
  exact ⟨rfl, rfl, fun j hj => (e2 j (by omega)).trans (h3 j hj)⟩
noncomputable def TH (T : KT) (w : Int32) (pe oi : Int) : KT := @ite _ (HOK T.1.1.toInt T.1.2.1 w.toInt pe oi) (Classical.propDecidable _) ((T.1.1 + 1, fun j => if j = T.1.1.toInt.toNat then w else T.1.2.1 j, T.1.2.2), T.2) T
noncomputable def TC (T : KT) (ni se : Int) : KT := if ni = -1 then ((T.1.1, T.1.2.1, 0), T.2) else @ite _ (COK (sh1 T.1.1) ni se T.1.2.2.toInt) (Classical.propDecidable _) ((T.1.1, T.1.2.1, T.1.2.2 + 1), T.2) T
noncomputable def CA (T : KT) (ni se : Int) : Int := if ni = -1 then 0 else @ite _ (COK (sh1 T.1.1) ni se T.1.2.2.toInt) (Classical.propDecidable _) (T.1.2.2.toInt + 1) (-1)
def TI1 (T : KT) : KT := (T.1, some T.1)
def TI0 (T : KT) : KT := match T.2 with | none => T | some t => (t, T.2)
theorem HOK_eq {n : Int} {pl g : Nat → Int32} {w pe oi : Int} (h : ∀ j : Nat, (j : Int) < n → g j = pl j) : HOK n g w pe oi ↔ HOK n pl w pe oi := by
  have k : FREE n g w ↔ FREE n pl w := ⟨fun q => ⟨q.1, q.2.1, fun j hj => by rw [← h j hj]; exact q.2.2 j hj⟩, fun q => ⟨q.1, q.2.1, fun j hj => by rw [h j hj]; exact q.2.2 j hj⟩⟩
  exact ⟨fun q => ⟨q.1, q.2.1, q.2.2.1, k.mp q.2.2.2⟩, fun q => ⟨q.1, q.2.1, q.2.2.1, k.mpr q.2.2.2⟩⟩
theorem KH_house {T : KT} {n n' c c' : Int32} {g g' : Nat → Int32} {w : Int32} {pe oi : Int} (h : KH T.1 n g c) (hs : HST n.toInt n'.toInt g g' w pe oi) (h0 : 0 ≤ n.toInt) (hc : c' = c) : KH (TH T w pe oi).1 n' g' c' ∧ (TH T w pe oi).2 = T.2 := by
  obtain ⟨h1, h2, h3⟩ := h
  subst hc
  rw [h1] at hs h0
  unfold TH
  rcases hs with ⟨q1, q2, q3, q4⟩ | ⟨q1, q2, q3⟩
  · have q1 := (HOK_eq h3).mp q1
    rw [if_pos q1]
    refine ⟨⟨Int32.toInt_inj.mp ?_, h2, fun j hj => ?_⟩, rfl⟩
    · rw [q2]; exact (addE (x := T.1.1) (y := 1) (a := T.1.1.toInt) (b := 1) rfl (by decide +kernel) (by have := q1.2.2.1; omega)).symm
    · show g' j = if j = T.1.1.toInt.toNat then w else T.1.2.1 j
      have hj : (j : Int) < (T.1.1 + 1).toInt := hj
      rw [addE (x := T.1.1) (y := 1) (a := T.1.1.toInt) (b := 1) rfl (by decide +kernel) (by have := q1.2.2.1; omega)] at hj
      by_cases hc : j = T.1.1.toInt.toNat
      · rw [if_pos hc, hc]; exact q3
      · rw [if_neg hc, q4 j hc]; exact h3 j (by omega)
  · have q1 : ¬ HOK T.1.1.toInt T.1.2.1 w.toInt pe oi := fun z => q1 ((HOK_eq h3).mpr z)
    rw [if_neg q1]
    subst q3
    exact ⟨⟨Int32.toInt_inj.mp q2, h2, h3⟩, rfl⟩
theorem KH_clue {T : KT} {n c c' n' : Int32} {g g' : Nat → Int32} {r ni se : Int} (h : KH T.1 n g c) (hs : CST (sh1 n) ni se c.toInt c'.toInt r) (h0 : 0 ≤ c.toInt) (hn : n' = n) (hg : g' = g) : r = CA T ni se ∧ KH (TC T ni se).1 n' g' c' ∧ (TC T ni se).2 = T.2 := by
  obtain ⟨h1, h2, h3⟩ := h
  subst hn hg
  rw [h1, h2] at hs
  rw [h2] at h0
  unfold TC CA
  rcases hs with ⟨q1, q2, q3⟩ | ⟨q1, q2, q3, q4⟩ | ⟨q1, q2, q3, q4⟩
  · rw [if_pos q1, if_pos q1]
    exact ⟨q2, ⟨h1, Int32.toInt_inj.mp (by rw [q3]; exact (show (0 : Int) = (0 : Int32).toInt from by decide +kernel)), h3⟩, rfl⟩
  · rw [if_neg q1, if_neg q1, if_pos q2, if_pos q2]
    exact ⟨q3, ⟨h1, Int32.toInt_inj.mp (by rw [q4]; exact (addE (x := T.1.2.2) (y := 1) (a := T.1.2.2.toInt) (b := 1) rfl (by decide +kernel) (by have := q2.2.2.2; omega)).symm), h3⟩, rfl⟩
  · rw [if_neg q1, if_neg q1, if_neg q2, if_neg q2]
    exact ⟨q3, ⟨h1, Int32.toInt_inj.mp q4, h3⟩, rfl⟩
def FRDC (h a b : Int) : Prop := (0 ≤ a ∧ a < h) ∧ (0 ≤ b ∧ b < h) ∧ a ≠ b
theorem HST_le {n n' : Int} {pl pl' : Nat → Int32} {w : Int32} {pe oi : Int} (h : HST n n' pl pl' w pe oi) : n ≤ n' := by
  rcases h with ⟨-, h, -⟩ | ⟨-, h, -⟩ <;> omega
def BUP (f g : Nat → Int32) (i : Int) (v : Int32) : Prop := g i.toNat = v ∧ ∀ j : Nat, j ≠ i.toNat → g j = f j
abbrev BV := (Nat → Int32) × Option (Nat → Int32)
abbrev NB := KT × BV
/-! p18: sets as numbers, pairs of friends -/
def clr (s a : Nat) : Nat := (s ||| 2 ^ a) ^^^ 2 ^ a
theorem clr_t (s a i : Nat) : (clr s a).testBit i = (s.testBit i && !decide (a = i)) := by
  unfold clr
  rw [Nat.testBit_xor, Nat.testBit_or, Nat.testBit_two_pow]
  generalize s.testBit i = b
  generalize decide (a = i) = c
  cases b <;> cases c <;> rfl
theorem in_clr {s a i : Nat} : (clr s a).testBit i = true ↔ s.testBit i = true ∧ a ≠ i := by
  rw [clr_t]
  by_cases h : a = i
  · rw [decide_eq_true h]
    exact ⟨fun q => by cases hb : s.testBit i <;> rw [hb] at q <;> exact absurd q (by decide), fun q => absurd h q.2⟩
  · rw [decide_eq_false h, Bool.not_false, Bool.and_true]
    exact ⟨fun q => ⟨q, h⟩, fun q => q.1⟩
theorem clr_cm (s a b : Nat) : clr (clr s a) b = clr (clr s b) a := by
  apply Nat.eq_of_testBit_eq
  intro i
  rw [clr_t, clr_t, clr_t, clr_t]
  generalize s.testBit i = x
  generalize decide (a = i) = c
  generalize decide (b = i) = d
  cases x <;> cases c <;> cases d <;> rfl
theorem clr_all : (List.range 1024).all (fun s => (List.range 10).all (fun a => decide (clr s a ≤ s ∧ (s.testBit a = true → clr s a < s)))) = true := by decide +kernel
theorem clr_le {s a : Nat} (hs : s < 1024) (ha : a < 10) : clr s a ≤ s ∧ (s.testBit a = true → clr s a < s) :=
  of_decide_eq_true (List.all_eq_true.mp (List.all_eq_true.mp clr_all s (List.mem_range.mpr hs)) a (List.mem_range.mpr ha))
theorem bit10 {s a : Nat} (hs : s < 1024) (h : s.testBit a = true) : a < 10 := by
  rcases Nat.lt_or_ge a 10 with q | q
  · exact q
  · have e : s.testBit a = false := Nat.testBit_lt_two_pow (Nat.lt_of_lt_of_le (show s < 2 ^ 10 from hs) (Nat.pow_le_pow_right (by decide) q))
    rw [e] at h
    cases h
/-! k pairs in a set -/
def PM (F : Nat → Nat → Prop) : Nat → Nat → Prop
  | 0, _ => True
  | k + 1, s => ∃ a b : Nat, s.testBit a = true ∧ s.testBit b = true ∧ a ≠ b ∧ F a b ∧ PM F k (clr (clr s a) b)
section PMs
variable {F : Nat → Nat → Prop}
theorem PM_mono (k : Nat) : ∀ {s t : Nat}, (∀ i : Nat, s.testBit i = true → t.testBit i = true) → PM F k s → PM F k t := by
  induction k with
  | zero => intro s t _ _; exact True.intro
  | succ k ih =>
    intro s t h hp
    obtain ⟨a, b, ha, hb, hn, hf, hp⟩ := hp
    exact ⟨a, b, h a ha, h b hb, hn, hf, ih (fun i hi => in_clr.mpr ⟨in_clr.mpr ⟨h i (in_clr.mp (in_clr.mp hi).1).1, (in_clr.mp (in_clr.mp hi).1).2⟩, (in_clr.mp hi).2⟩) hp⟩
theorem PM_le {k s : Nat} (h : PM F (k + 1) s) : PM F k s := by
  obtain ⟨a, b, -, -, -, -, hp⟩ := h
  exact PM_mono k (fun i hi => (in_clr.mp (in_clr.mp hi).1).1) hp
theorem PM_anti {j s : Nat} (d : Nat) : PM F (j + d) s → PM F j s := by
  induction d with
  | zero => exact fun h => h
  | succ d ih => exact fun h => ih (PM_le h)
theorem PM_an {j k s : Nat} (h : PM F k s) (hj : j ≤ k) : PM F j s := by
  obtain ⟨d, rfl⟩ : ∃ d, k = j + d := ⟨k - j, by omega⟩
  exact PM_anti d h
theorem PM_exch (sym : ∀ a b : Nat, F a b → F b a) (k : Nat) : ∀ (s v : Nat), PM F k s → PM F k (clr s v) ∨ ∃ j o : Nat, k = j + 1 ∧ s.testBit v = true ∧ s.testBit o = true ∧ v ≠ o ∧ F v o ∧ PM F j (clr (clr s v) o) := by
  induction k with
  | zero => intro s v _; exact Or.inl True.intro
  | succ k ih =>
    intro s v h
    obtain ⟨a, b, ha, hb, hn, hf, hp⟩ := h
    by_cases h1 : v = a
    · subst h1; exact Or.inr ⟨k, b, rfl, ha, hb, hn, hf, hp⟩
    by_cases h2 : v = b
    · subst h2; exact Or.inr ⟨k, a, rfl, hb, ha, fun e => hn e.symm, sym _ _ hf, by rw [clr_cm]; exact hp⟩
    rcases ih _ v hp with q | ⟨j, o, rfl, hv, ho, hvo, hfo, q⟩
    · refine Or.inl ⟨a, b, in_clr.mpr ⟨ha, h1⟩, in_clr.mpr ⟨hb, h2⟩, hn, hf, ?_⟩
      rw [clr_cm s v a, clr_cm (clr s a) v b]
      exact q
    · have ho2 := in_clr.mp ho
      have ho3 := in_clr.mp ho2.1
      refine Or.inr ⟨j + 1, o, rfl, (in_clr.mp (in_clr.mp hv).1).1, ho3.1, hvo, hfo, a, b, in_clr.mpr ⟨in_clr.mpr ⟨ha, h1⟩, fun e => ho3.2 e.symm⟩, in_clr.mpr ⟨in_clr.mpr ⟨hb, h2⟩, fun e => ho2.2 e.symm⟩, hn, hf, ?_⟩
      rw [clr_cm (clr s v) o a, clr_cm s v a, clr_cm (clr (clr s a) v) o b, clr_cm (clr s a) v b]
      exact q
theorem PM_bd (k : Nat) : ∀ {s : Nat}, s < 1024 → PM F k s → k ≤ s := by
  induction k with
  | zero => intro s _ _; exact Nat.zero_le _
  | succ k ih =>
    intro s hs h
    obtain ⟨a, b, ha, hb, -, -, hp⟩ := h
    have c1 := (clr_le hs (bit10 hs ha)).2 ha
    have c2 := (clr_le (s := clr s a) (by omega) (bit10 hs hb)).1
    have c3 := ih (by omega) hp
    omega
def MXI (F : Nat → Nat → Prop) (s : Nat) (m : Int) : Prop := 0 ≤ m ∧ PM F m.toNat s ∧ ¬ PM F (m.toNat + 1) s
theorem MX_u {s : Nat} {m n : Int} (h : MXI F s m) (h2 : MXI F s n) : m = n := by
  obtain ⟨a1, a2, a3⟩ := h
  obtain ⟨b1, b2, b3⟩ := h2
  rcases Int.lt_or_le m n with q | q
  · exact absurd (PM_an b2 (by omega)) a3
  · rcases Int.lt_or_le n m with q2 | q2
    · exact absurd (PM_an a2 (by omega)) b3
    · omega
theorem MX_bd {s : Nat} {m : Int} (hs : s < 1024) (h : MXI F s m) : 0 ≤ m ∧ m ≤ 1023 := by
  have q := PM_bd _ hs h.2.1
  have := h.1
  omega
theorem MX_0 : MXI F 0 0 := by
  refine ⟨by omega, True.intro, ?_⟩
  rintro ⟨a, b, ha, -⟩
  rw [Nat.zero_testBit] at ha
  cases ha
def ML (F : Nat → Nat → Prop) (s v : Nat) (i m : Int) : Prop := 0 ≤ m ∧ PM F m.toNat s ∧ ¬ PM F (m.toNat + 1) (clr s v) ∧ ∀ o : Nat, (o : Int) < i → s.testBit o = true → v ≠ o → F v o → ¬ PM F m.toNat (clr (clr s v) o)
theorem ML_init {s v : Nat} {i m : Int} (h : MXI F (clr s v) m) (h0 : ∀ o : Nat, (o : Int) < i → s.testBit o = true → v = o) : ML F s v i m :=
  ⟨h.1, PM_mono _ (fun _ hi => (in_clr.mp hi).1) h.2.1, h.2.2, fun o ho hs hv _ => absurd (h0 o ho hs) hv⟩
theorem ML_skip {s v k : Nat} {i i' m : Int} (h : ML F s v i m) (hk : (k : Int) = i) (hn : ¬ (s.testBit k = true ∧ F v k)) (hi : i' = i + 1) : ML F s v i' m := by
  obtain ⟨h1, h2, h3, h4⟩ := h
  refine ⟨h1, h2, h3, fun o ho hs hv hf => ?_⟩
  rcases Int.lt_or_le (o : Int) i with q | q
  · exact h4 o q hs hv hf
  · have e : o = k := by omega
    subst e
    exact absurd ⟨hs, hf⟩ hn
theorem ML_take {s v k : Nat} {i i' m c m' : Int} (h : ML F s v i m) (hk : (k : Int) = i) (hv : s.testBit v = true) (hs : s.testBit k = true) (hn : v ≠ k) (hf : F v k) (hc : MXI F (clr (clr s v) k) c) (hm : (m' = m ∧ c + 1 ≤ m) ∨ (m' = c + 1 ∧ m ≤ c + 1)) (hi : i' = i + 1) : ML F s v i' m' := by
  obtain ⟨h1, h2, h3, h4⟩ := h
  obtain ⟨c1, c2, c3⟩ := hc
  have hM : m ≤ m' ∧ c + 1 ≤ m' := by omega
  refine ⟨by omega, ?_, fun q => h3 (PM_an q (by omega)), fun o ho hs2 hv2 hf2 q => ?_⟩
  · rcases hm with ⟨e, -⟩ | ⟨e, -⟩
    · rw [e]; exact h2
    · rw [show m'.toNat = c.toNat + 1 from by omega]
      exact ⟨v, k, hv, hs, hn, hf, c2⟩
  · rcases Int.lt_or_le (o : Int) i with q2 | q2
    · exact h4 o q2 hs2 hv2 hf2 (PM_an q (by omega))
    · have e : o = k := by omega
      subst e
      exact c3 (PM_an q (by omega))
theorem ML_fin {s v : Nat} {i m : Int} (sym : ∀ a b : Nat, F a b → F b a) (h : ML F s v i m) (he : ∀ o : Nat, s.testBit o = true → v ≠ o → (o : Int) < i) : MXI F s m := by
  obtain ⟨h1, h2, h3, h4⟩ := h
  refine ⟨h1, h2, fun q => ?_⟩
  rcases PM_exch sym _ s v q with q | ⟨j, o, e, hv, ho, hvo, hf, q⟩
  · exact h3 q
  · exact h4 o (he o ho hvo) ho hvo hf (by rw [show m.toNat = j from by omega]; exact q)
end PMs
def TBL (F : Nat → Nat → Prop) (g : Nat → Int32) (B : Int) : Prop := ∀ s : Nat, 1 ≤ s → (s : Int) < B → MXI F s (g s).toInt
def PINf (g : Nat → Int32) (s : Int) : Int := if 1 ≤ s ∧ s ≤ 1023 then (g s.toNat).toInt else 0
theorem PIN_y {g : Nat → Int32} {i v : Int32} (e : v = g i.toNatClampNeg) (h1 : 1 ≤ i.toInt) (h2 : i.toInt ≤ 1023) : v.toInt = PINf g i.toInt := by
  have q := idxI (x := i) (by omega)
  unfold PINf
  rw [if_pos ⟨h1, h2⟩, e, show i.toNatClampNeg = i.toInt.toNat from by omega]
theorem PIN_n {g : Nat → Int32} {s r : Int} (h : ¬ (1 ≤ s ∧ s ≤ 1023)) (hr : r = 0) : r = PINf g s := by
  unfold PINf
  rw [if_neg h]
  exact hr
theorem TBL_0 {F : Nat → Nat → Prop} {g : Nat → Int32} {B : Int} (h : B ≤ 1) : TBL F g B := fun s h1 h2 => absurd h2 (by omega)
theorem TBL_le {F : Nat → Nat → Prop} {g : Nat → Int32} {B B' : Int} (h : TBL F g B) (hB : B' ≤ B) : TBL F g B' := fun s h1 h2 => h s h1 (by omega)
theorem TBL_in {F : Nat → Nat → Prop} {g : Nat → Int32} {B x r : Int} {s : Nat} (h : TBL F g B) (hx : x = (s : Int)) (hB : x < B) (hb : x ≤ 1023) (hr : r = PINf g x) : MXI F s r := by
  subst hx
  unfold PINf at hr
  by_cases c : s = 0
  · subst c
    rw [if_neg (by omega)] at hr
    rw [hr]
    exact MX_0
  · rw [if_pos (by omega)] at hr
    rw [hr, Int.toNat_natCast]
    exact h s (by omega) hB
theorem TBL_st {F : Nat → Nat → Prop} {g g' : Nat → Int32} {B B' : Int} {i v : Int32} (h : TBL F g B) (e : g' = upd g i.toNatClampNeg v) (hi : 0 ≤ i.toInt) (hB : i.toInt = B) (hv : MXI F i.toInt.toNat v.toInt) (hB' : B' = B + 1) : TBL F g' B' := by
  intro s h1 h2
  have q := idxI hi
  by_cases c : s = i.toNatClampNeg
  · rw [e, c, pk_us, show i.toNatClampNeg = i.toInt.toNat from by omega]
    exact hv
  · rw [e, pk_un c]
    exact h s h1 (by omega)
/-! friends as rows of sets -/
def FR (n : Int) (f : Nat → Int32) (a b : Nat) : Prop := (a : Int) < n ∧ (b : Int) < n ∧ (f a).toInt.toNat.testBit b = true
def WFF (n : Int) (f : Nat → Int32) : Prop := ∀ i : Nat, i < 10 → (i : Int) < n → (0 ≤ (f i).toInt ∧ (f i).toInt ≤ 1023) ∧ ∀ j : Nat, (f i).toInt.toNat.testBit j = true → (j : Int) < n ∧ i ≠ j ∧ (f j).toInt.toNat.testBit i = true
theorem FR_sym {n : Int} {f : Nat → Int32} (h : WFF n f) (hn : n ≤ 10) (a b : Nat) (hf : FR n f a b) : FR n f b a := by
  obtain ⟨h1, h2, h3⟩ := hf
  exact ⟨h2, h1, ((h a (by omega) h1).2 b h3).2.2⟩
theorem FR_eq {n : Int} {f g : Nat → Int32} (h : ∀ j : Nat, (j : Int) < n → f j = g j) : FR n f = FR n g := by
  funext a b
  apply propext
  unfold FR
  constructor
  · rintro ⟨h1, h2, h3⟩; rw [h a h1] at h3; exact ⟨h1, h2, h3⟩
  · rintro ⟨h1, h2, h3⟩; rw [← h a h1] at h3; exact ⟨h1, h2, h3⟩
noncomputable def mvl (F : Nat → Nat → Prop) (s : Nat) : Int := Classical.epsilon (fun m : Int => MXI F s m)
theorem mv_of {F : Nat → Nat → Prop} {s : Nat} {m : Int} (h : MXI F s m) : m = mvl F s :=
  MX_u h (Classical.epsilon_spec (p := fun m : Int => MXI F s m) ⟨m, h⟩)
def fpc (F : Nat → Nat → Prop) (s h o : Nat) : Prop := s.testBit o = true ∧ h < o ∧ F h o ∧ mvl F (clr (clr s h) o) + 1 = mvl F s
noncomputable def fpN (F : Nat → Nat → Prop) (s h : Nat) : Nat → Int
  | 0 => -1
  | k + 1 => if fpN F s h k ≠ -1 then fpN F s h k else @ite _ (fpc F s h k) (Classical.propDecidable _) (k : Int) (-1)
section fps
variable {F : Nat → Nat → Prop} {s h : Nat}
theorem fp_no (n : Nat) : (∀ j : Nat, j < n → ¬ fpc F s h j) → fpN F s h n = -1 := by
  induction n with
  | zero => intro _; rfl
  | succ k ih =>
    intro q
    show (if fpN F s h k ≠ -1 then fpN F s h k else @ite _ (fpc F s h k) (Classical.propDecidable _) (k : Int) (-1)) = -1
    rw [ih (fun j hj => q j (by omega)), if_neg (fun z => z rfl), if_neg (q k (by omega))]
theorem fp_hit {o : Nat} (q : ∀ j : Nat, j < o → ¬ fpc F s h j) (ho : fpc F s h o) (n : Nat) : o < n → fpN F s h n = (o : Int) := by
  induction n with
  | zero => intro hn; omega
  | succ k ih =>
    intro hn
    show (if fpN F s h k ≠ -1 then fpN F s h k else @ite _ (fpc F s h k) (Classical.propDecidable _) (k : Int) (-1)) = (o : Int)
    by_cases c : o < k
    · rw [ih c, if_pos (by omega)]
    · have e : o = k := by omega
      subst e
      rw [fp_no o q, if_neg (fun z => z rfl), if_pos ho]
theorem fp_ex (n : Nat) : fpN F s h n = -1 ∨ ∃ o : Nat, o < n ∧ fpN F s h n = (o : Int) ∧ fpc F s h o := by
  induction n with
  | zero => exact Or.inl rfl
  | succ k ih =>
    show (if fpN F s h k ≠ -1 then fpN F s h k else @ite _ (fpc F s h k) (Classical.propDecidable _) (k : Int) (-1)) = -1 ∨ ∃ o : Nat, o < k + 1 ∧ (if fpN F s h k ≠ -1 then fpN F s h k else @ite _ (fpc F s h k) (Classical.propDecidable _) (k : Int) (-1)) = (o : Int) ∧ fpc F s h o
    rcases ih with e | ⟨o, h1, h2, h3⟩
    · rw [e, if_neg (fun z => z rfl)]
      by_cases c : fpc F s h k
      · rw [if_pos c]; exact Or.inr ⟨k, by omega, rfl, c⟩
      · rw [if_neg c]; exact Or.inl rfl
    · rw [h2, if_pos (by omega)]
      exact Or.inr ⟨o, by omega, rfl, h3⟩
end fps
def drp (s h : Nat) (o : Int) : Nat := if o = -1 then clr s h else clr (clr s h) o.toNat
noncomputable def prr (F : Nat → Nat → Prop) (n x : Nat) : Nat → Nat → Int
  | 0, _ => -1
  | f + 1, s => if s.testBit (n - (f + 1)) = true then (if x = n - (f + 1) then fpN F s (n - (f + 1)) n else if (x : Int) = fpN F s (n - (f + 1)) n then ((n - (f + 1) : Nat) : Int) else prr F n x f (drp s (n - (f + 1)) (fpN F s (n - (f + 1)) n))) else prr F n x f s
noncomputable def RMA (f : Nat → Int32) (n what : Int) : Int := if what = 0 then mvl (FR n f) (2 ^ n.toNat - 1) else if 10 ≤ what ∧ what < 10 + n then prr (FR n f) n.toNat (what - 10).toNat n.toNat (2 ^ n.toNat - 1) else -1
theorem RMA_eq {f g : Nat → Int32} {n what : Int} (h : ∀ j : Nat, (j : Int) < n → f j = g j) : RMA f n what = RMA g n what := by
  unfold RMA
  rw [FR_eq h]
section prs
variable {F : Nat → Nat → Prop} {n x : Nat}
theorem prr_no {f s h : Nat} (hf : f + 1 = n - h) (hh : h < n) (hb : s.testBit h = false) : prr F n x (f + 1) s = prr F n x f s := by
  show (if s.testBit (n - (f + 1)) = true then _ else prr F n x f s) = prr F n x f s
  rw [show n - (f + 1) = h from by omega, hb, if_neg (fun z => by cases z)]
theorem prr_me {f s h : Nat} (hf : f + 1 = n - h) (hh : h < n) (hb : s.testBit h = true) (hx : x = h) : prr F n x (f + 1) s = fpN F s h n := by
  show (if s.testBit (n - (f + 1)) = true then (if x = n - (f + 1) then fpN F s (n - (f + 1)) n else _) else prr F n x f s) = _
  rw [show n - (f + 1) = h from by omega, if_pos hb, if_pos hx]
theorem prr_ot {f s h : Nat} (hf : f + 1 = n - h) (hh : h < n) (hb : s.testBit h = true) (hx : x ≠ h) (ho : (x : Int) = fpN F s h n) : prr F n x (f + 1) s = (h : Int) := by
  show (if s.testBit (n - (f + 1)) = true then (if x = n - (f + 1) then fpN F s (n - (f + 1)) n else if (x : Int) = fpN F s (n - (f + 1)) n then ((n - (f + 1) : Nat) : Int) else _) else prr F n x f s) = _
  rw [show n - (f + 1) = h from by omega, if_pos hb, if_neg hx, if_pos ho]
theorem prr_on {f s h : Nat} (hf : f + 1 = n - h) (hh : h < n) (hb : s.testBit h = true) (hx : x ≠ h) (ho : (x : Int) ≠ fpN F s h n) : prr F n x (f + 1) s = prr F n x f (drp s h (fpN F s h n)) := by
  show (if s.testBit (n - (f + 1)) = true then (if x = n - (f + 1) then fpN F s (n - (f + 1)) n else if (x : Int) = fpN F s (n - (f + 1)) n then ((n - (f + 1) : Nat) : Int) else prr F n x f (drp s (n - (f + 1)) (fpN F s (n - (f + 1)) n))) else prr F n x f s) = _
  rw [show n - (f + 1) = h from by omega, if_pos hb, if_neg hx, if_neg ho]
theorem prr_z (f : Nat) : prr F n x f 0 = -1 := by
  induction f with
  | zero => rfl
  | succ f ih =>
    show (if (0 : Nat).testBit (n - (f + 1)) = true then _ else prr F n x f 0) = -1
    rw [Nat.zero_testBit, if_neg (fun z => by cases z), ih]
theorem prr_skip {s h : Nat} (hh : h ≤ n) (hb : ∀ i : Nat, i < h → s.testBit i = false) (d : Nat) : ∀ f : Nat, f = n - h + d → f ≤ n → prr F n x f s = prr F n x (n - h) s := by
  induction d with
  | zero => intro f e _; rw [e]; rfl
  | succ d ih =>
    intro f e hf
    obtain ⟨g, rfl⟩ : ∃ g, f = g + 1 := ⟨n - h + d, by omega⟩
    rw [prr_no (h := n - (g + 1)) (by omega) (by omega) (hb _ (by omega))]
    exact ih g (by omega) (by omega)
end prs
/-! sets of houses as ints below 1024 -/
theorem sb_all : (List.range 1024).all (fun s => (List.range 10).all (fun j => decide ((((nI s >>> (nI j &&& 31)) &&& 1).toInt = 1 ∧ s.testBit j = true) ∨ (((nI s >>> (nI j &&& 31)) &&& 1).toInt = 0 ∧ s.testBit j = false)))) = true := by decide +kernel
theorem sb_bit {x k u w : Int32} (hu : u = x >>> (k &&& 31)) (hw : w = u &&& 1) (hx : 0 ≤ x.toInt ∧ x.toInt ≤ 1023) (hk : 0 ≤ k.toInt ∧ k.toInt ≤ 9) : (w.toInt = 1 ∧ x.toInt.toNat.testBit k.toInt.toNat = true) ∨ (w.toInt = 0 ∧ x.toInt.toNat.testBit k.toInt.toNat = false) := by
  obtain ⟨a, ha, rfl, ea⟩ := n10 (b := 1023) hx (by decide)
  obtain ⟨j, hj, rfl, ej⟩ := n10 (b := 9) hk (by decide)
  rw [ea, ej, hw, hu]
  exact of_decide_eq_true (List.all_eq_true.mp (List.all_eq_true.mp sb_all a (List.mem_range.mpr (by omega))) j (List.mem_range.mpr (by omega)))
theorem sb_and {x y z : Int32} (hz : z = x &&& y) (hx : 0 ≤ x.toInt) (hy : 0 ≤ y.toInt) : 0 ≤ z.toInt ∧ z.toInt ≤ x.toInt ∧ ∀ i : Nat, z.toInt.toNat.testBit i = (x.toInt.toNat.testBit i && y.toInt.toNat.testBit i) := by
  have a := nat_lt hx
  have b := nat_lt hy
  have e : z.toBitVec.toNat = x.toBitVec.toNat &&& y.toBitVec.toNat := by rw [hz, Int32.toBitVec_and, BitVec.toNat_and]
  have l : x.toBitVec.toNat &&& y.toBitVec.toNat ≤ x.toBitVec.toNat := Nat.and_le_left
  have q := of_nat e (by omega)
  refine ⟨by omega, by omega, fun i => ?_⟩
  rw [show z.toInt.toNat = x.toBitVec.toNat &&& y.toBitVec.toNat from by omega, show x.toInt.toNat = x.toBitVec.toNat from by omega, show y.toInt.toNat = y.toBitVec.toNat from by omega, Nat.testBit_and]
theorem sbc_all : (List.range 1024).all (fun s => (List.range 10).all (fun j => decide ((nI s &&& (((1 : Int32) <<< (nI j &&& 31)) ^^^ (-1))).toInt = ((clr s j : Nat) : Int)))) = true := by decide +kernel
theorem sb_clr {x k t n z : Int32} (ht : t = (1 : Int32) <<< (k &&& 31)) (hn : n = t ^^^ (-1)) (hz : z = x &&& n) (hx : 0 ≤ x.toInt ∧ x.toInt ≤ 1023) (hk : 0 ≤ k.toInt ∧ k.toInt ≤ 9) : z.toInt = ((clr x.toInt.toNat k.toInt.toNat : Nat) : Int) := by
  obtain ⟨a, ha, rfl, ea⟩ := n10 (b := 1023) hx (by decide)
  obtain ⟨j, hj, rfl, ej⟩ := n10 (b := 9) hk (by decide)
  rw [ea, ej, hz, hn, ht]
  exact of_decide_eq_true (List.all_eq_true.mp (List.all_eq_true.mp sbc_all a (List.mem_range.mpr (by omega))) j (List.mem_range.mpr (by omega)))
theorem dmg_all : (List.range 10).all (fun h => (List.range 10).all (fun j => decide ((((1 : Int32) <<< (nI h &&& 31)) ||| ((1 : Int32) <<< (nI j &&& 31))) ^^^ (-1) = (((1 : Int32) <<< (nI h &&& 31)) ^^^ (-1)) &&& (((1 : Int32) <<< (nI j &&& 31)) ^^^ (-1))))) = true := by decide +kernel
theorem sb_clr2 {x h k a b c n z : Int32} (ha : a = (1 : Int32) <<< (h &&& 31)) (hb : b = (1 : Int32) <<< (k &&& 31)) (hc : c = a ||| b) (hn : n = c ^^^ (-1)) (hz : z = x &&& n) (hx : 0 ≤ x.toInt ∧ x.toInt ≤ 1023) (hh : 0 ≤ h.toInt ∧ h.toInt ≤ 9) (hk : 0 ≤ k.toInt ∧ k.toInt ≤ 9) : z.toInt = ((clr (clr x.toInt.toNat h.toInt.toNat) k.toInt.toNat : Nat) : Int) := by
  have e : n = (a ^^^ (-1)) &&& (b ^^^ (-1)) := by
    rw [hn, hc, ha, hb]
    obtain ⟨i, hi, rfl, -⟩ := n10 (b := 9) hh (by decide)
    obtain ⟨j, hj, rfl, -⟩ := n10 (b := 9) hk (by decide)
    exact of_decide_eq_true (List.all_eq_true.mp (List.all_eq_true.mp dmg_all i (List.mem_range.mpr (by omega))) j (List.mem_range.mpr (by omega)))
  have q1 := sb_clr (z := x &&& (a ^^^ (-1))) ha rfl rfl hx hh
  have l : clr x.toInt.toNat h.toInt.toNat ≤ x.toInt.toNat := (clr_le (by omega) (by omega)).1
  have q2 := sb_clr (x := x &&& (a ^^^ (-1))) (z := z) hb rfl (by rw [hz, e, Int32.and_assoc]) (by omega) hk
  rw [q2, q1, Int.toNat_natCast]
theorem sbo_all : (List.range 10).all (fun h => (List.range (2 ^ h)).all (fun r => decide ((nI r ||| ((1 : Int32) <<< (nI h &&& 31))).toInt = ((2 ^ h + r : Nat) : Int) ∧ clr (2 ^ h + r) h = r ∧ (2 ^ h + r).testBit h = true ∧ 2 ^ h + r < 1024))) = true := by decide +kernel
theorem sb_or {r h t z : Int32} (ht : t = (1 : Int32) <<< (h &&& 31)) (hz : z = r ||| t) (hh : 0 ≤ h.toInt ∧ h.toInt ≤ 9) (h0 : 0 ≤ r.toInt) (hr : r.toInt < ((2 ^ h.toInt.toNat : Nat) : Int)) : z.toInt = ((2 ^ h.toInt.toNat + r.toInt.toNat : Nat) : Int) := by
  obtain ⟨j, hj, rfl, ej⟩ := n10 (b := 9) hh (by decide)
  rw [ej] at hr ⊢
  have l : 2 ^ j ≤ 2 ^ 9 := Nat.pow_le_pow_right (by decide) hj
  obtain ⟨a, ha, rfl, ea⟩ := n10 (b := 1023) (y := r) ⟨h0, by omega⟩ (by decide)
  rw [ea, hz, ht]
  exact (of_decide_eq_true (List.all_eq_true.mp (List.all_eq_true.mp sbo_all j (List.mem_range.mpr (by omega))) a (List.mem_range.mpr (by omega)))).1
theorem ad2 {h r : Nat} (hh : h < 10) (hr : r < 2 ^ h) : clr (2 ^ h + r) h = r ∧ (2 ^ h + r).testBit h = true ∧ 2 ^ h + r < 1024 :=
  (of_decide_eq_true (List.all_eq_true.mp (List.all_eq_true.mp sbo_all h (List.mem_range.mpr hh)) r (List.mem_range.mpr hr))).2
theorem ad2_b {h r i : Nat} (hh : h < 10) (hr : r < 2 ^ h) (hi : i ≠ h) : (2 ^ h + r).testBit i = r.testBit i := by
  have q := clr_t (2 ^ h + r) h i
  rw [(ad2 hh hr).1, decide_eq_false (fun e => hi e.symm), Bool.not_false, Bool.and_true] at q
  exact q.symm
theorem ad2_l {h r i : Nat} (hr : r < 2 ^ h) (hi : r.testBit i = true) : i < h := by
  rcases Nat.lt_or_ge i h with q | q
  · exact q
  · rw [Nat.testBit_lt_two_pow (Nat.lt_of_lt_of_le hr (Nat.pow_le_pow_right (by decide) q))] at hi
    cases hi
theorem sh_all : (List.range 11).all (fun j => decide (((1 : Int32) <<< (nI j &&& 31)).toInt = ((2 ^ j : Nat) : Int))) = true := by decide +kernel
theorem sb_shl {k t : Int32} (ht : t = (1 : Int32) <<< (k &&& 31)) (hk : 0 ≤ k.toInt ∧ k.toInt ≤ 10) : t.toInt = ((2 ^ k.toInt.toNat : Nat) : Int) := by
  obtain ⟨j, hj, rfl, ej⟩ := n10 (b := 10) hk (by decide)
  rw [ej, ht]
  exact of_decide_eq_true (List.all_eq_true.mp sh_all j (List.mem_range.mpr (by omega)))
theorem sbl_all : (List.range 1024).all (fun s => (List.range 10).all (fun j => decide (s.testBit j = true → (List.range j).all (fun i => !s.testBit i) = true → (nI s &&& (nI s - 1)).toInt = ((clr s j : Nat) : Int)))) = true := by decide +kernel
theorem sb_low {x m z : Int32} {j : Nat} (hm : m.toInt = x.toInt - 1) (hz : z = x &&& m) (hx : 1 ≤ x.toInt ∧ x.toInt ≤ 1023) (hj : j < 10) (h1 : x.toInt.toNat.testBit j = true) (h0 : ∀ i : Nat, i < j → x.toInt.toNat.testBit i = false) : z.toInt = ((clr x.toInt.toNat j : Nat) : Int) := by
  obtain ⟨a, ha, rfl, ea⟩ := n10 (b := 1023) (y := x) ⟨by omega, hx.2⟩ (by decide)
  rw [ea] at h1 h0 ⊢
  have em : m = nI a - 1 := Int32.toInt_inj.mp (by rw [hm, subE (x := nI a) (y := 1) (a := (nI a).toInt) (b := 1) rfl (by decide +kernel) (by omega)])
  rw [hz, em]
  exact of_decide_eq_true (List.all_eq_true.mp (List.all_eq_true.mp sbl_all a (List.mem_range.mpr (by omega))) j (List.mem_range.mpr hj)) h1 (List.all_eq_true.mpr (fun i hi => by rw [h0 i (List.mem_range.mp hi)]; rfl))
theorem p2_le {n : Nat} (h : n ≤ 10) : 2 ^ n ≤ 1024 := Nat.pow_le_pow_right (by decide) h
theorem p2_s (n : Nat) : (2 ^ (n + 1) : Nat) = 2 ^ n + 2 ^ n := by rw [Nat.pow_succ]; omega
theorem set_lt {s n : Nat} (h : ∀ i : Nat, s.testBit i = true → i < n) : s < 2 ^ n :=
  Nat.lt_pow_two_of_testBit s (fun i hi => by
    rcases hb : s.testBit i with _ | _
    · rfl
    · exact absurd (h i hb) (by omega))
theorem all_t {n i : Nat} : (2 ^ n - 1).testBit i = true ↔ i < n := by
  rw [Nat.testBit_two_pow_sub_one]
  exact decide_eq_true_iff
theorem fr_at {n : Int} {f : Nat → Int32} {i x : Int32} (h : WFF n f) (e : x = f i.toNatClampNeg) (h0 : 0 ≤ i.toInt) (hi : i.toInt < n) (h9 : i.toInt ≤ 9) : (0 ≤ x.toInt ∧ x.toInt ≤ 1023) ∧ ∀ k : Nat, (FR n f i.toInt.toNat k ↔ x.toInt.toNat.testBit k = true) := by
  have q := idxI h0
  have q2 : i.toNatClampNeg = i.toInt.toNat := by omega
  rw [q2] at e
  have w := h i.toInt.toNat (by omega) (by omega)
  rw [e]
  refine ⟨w.1, fun k => ⟨fun z => z.2.2, fun z => ⟨by omega, (w.2 k z).1, z⟩⟩⟩
theorem mp_no {F : Nat → Nat → Prop} {r h k : Nat} {i i' m : Int} {fh : Nat} (hL : ML F (2 ^ h + r) h i m) (hh : h < 10) (hr : r < 2 ^ h) (hk : (k : Int) = i) (hkh : k < h) (hF : F h k ↔ fh.testBit k = true) (hb : (r.testBit k && fh.testBit k) = false) (hi : i' = i + 1) : ML F (2 ^ h + r) h i' m := by
  refine ML_skip hL hk (fun q => ?_) hi
  obtain ⟨q1, q2⟩ := q
  rw [ad2_b hh hr (by omega)] at q1
  rw [q1, hF.mp q2] at hb
  cases hb
theorem mp_yes {F : Nat → Nat → Prop} {r h k : Nat} {i i' m c m' : Int} {fh : Nat} (hL : ML F (2 ^ h + r) h i m) (hh : h < 10) (hr : r < 2 ^ h) (hk : (k : Int) = i) (hkh : k < h) (hF : F h k ↔ fh.testBit k = true) (hb : (r.testBit k && fh.testBit k) = true) (hc : MXI F (clr r k) c) (hm : (m' = m ∧ c + 1 ≤ m) ∨ (m' = c + 1 ∧ m ≤ c + 1)) (hi : i' = i + 1) : ML F (2 ^ h + r) h i' m' := by
  have hb2 := (Bool.and_eq_true_iff.mp hb)
  exact ML_take hL hk (ad2 hh hr).2.1 (by rw [ad2_b hh hr (by omega)]; exact hb2.1) (by omega) (hF.mpr hb2.2) (by rw [(ad2 hh hr).1]; exact hc) hm hi
theorem mp_init {F : Nat → Nat → Prop} {r h : Nat} {i m : Int} (hh : h < 10) (hr : r < 2 ^ h) (hm : MXI F r m) (hi : i = 0) : ML F (2 ^ h + r) h i m :=
  ML_init (by rw [(ad2 hh hr).1]; exact hm) (fun o ho _ => absurd ho (by omega))
theorem mp_fin {F : Nat → Nat → Prop} {r h : Nat} {i m : Int} (sym : ∀ a b : Nat, F a b → F b a) (hL : ML F (2 ^ h + r) h i m) (hh : h < 10) (hr : r < 2 ^ h) (hi : (h : Int) ≤ i) : MXI F (2 ^ h + r) m :=
  ML_fin sym hL (fun o ho hv => by
    rw [ad2_b hh hr (fun e => hv e.symm)] at ho
    have q := ad2_l hr ho
    omega)
/-! mostPairs, countPairs -/
section mps
variable {n : Int} {f g g' : Nat → Int32} {rest h : Int32}
theorem mp_m0 {r : Int32} (hT : TBL (FR n f) g ((2 ^ h.toInt.toNat + rest.toInt.toNat : Nat) : Int)) (h0 : 0 ≤ rest.toInt) (hr : rest.toInt.toNat < 2 ^ h.toInt.toNat) (hb : rest.toInt ≤ 1023) (hp : r.toInt = PINf g rest.toInt) : MXI (FR n f) rest.toInt.toNat r.toInt :=
  TBL_in (s := rest.toInt.toNat) hT (by omega) (by omega) hb hp
theorem mp_i {m k : Int32} (hm : MXI (FR n f) rest.toInt.toNat m.toInt) (hh : 0 ≤ h.toInt ∧ h.toInt ≤ 9) (hr : rest.toInt.toNat < 2 ^ h.toInt.toNat) (hk : k.toInt = 0) : ML (FR n f) (2 ^ h.toInt.toNat + rest.toInt.toNat) h.toInt.toNat k.toInt m.toInt :=
  mp_init (by omega) hr hm hk
theorem mp_bits {fh ch k u w : Int32} (wf : WFF n f) (efh : fh = f h.toNatClampNeg) (ech : ch = rest &&& fh) (eu : u = ch >>> (k &&& 31)) (ew : w = u &&& 1) (hh : 0 ≤ h.toInt ∧ h.toInt < n) (hn : n ≤ 10) (h0 : 0 ≤ rest.toInt) (hb : rest.toInt ≤ 1023) (hk : 0 ≤ k.toInt ∧ k.toInt ≤ 9) : (FR n f h.toInt.toNat k.toInt.toNat ↔ fh.toInt.toNat.testBit k.toInt.toNat = true) ∧ ((w.toInt = 1 ∧ (rest.toInt.toNat.testBit k.toInt.toNat && fh.toInt.toNat.testBit k.toInt.toNat) = true) ∨ (w.toInt = 0 ∧ (rest.toInt.toNat.testBit k.toInt.toNat && fh.toInt.toNat.testBit k.toInt.toNat) = false)) := by
  have q := fr_at wf efh hh.1 hh.2 (by omega)
  have a := sb_and ech h0 q.1.1
  have b := sb_bit eu ew ⟨a.1, by omega⟩ hk
  rw [a.2.2] at b
  exact ⟨q.2 _, b⟩
theorem mp_noI {fh ch k k' u w m : Int32} (hL : ML (FR n f) (2 ^ h.toInt.toNat + rest.toInt.toNat) h.toInt.toNat k.toInt m.toInt) (wf : WFF n f) (efh : fh = f h.toNatClampNeg) (ech : ch = rest &&& fh) (eu : u = ch >>> (k &&& 31)) (ew : w = u &&& 1) (hw : w.toInt ≠ 1) (hh : 0 ≤ h.toInt ∧ h.toInt < n) (hn : n ≤ 10) (h0 : 0 ≤ rest.toInt) (hb : rest.toInt ≤ 1023) (hr : rest.toInt.toNat < 2 ^ h.toInt.toNat) (hk : 0 ≤ k.toInt ∧ k.toInt < h.toInt) (hi : k'.toInt = k.toInt + 1) : ML (FR n f) (2 ^ h.toInt.toNat + rest.toInt.toNat) h.toInt.toNat k'.toInt m.toInt := by
  obtain ⟨q1, ⟨q2, -⟩ | ⟨-, q2⟩⟩ := mp_bits wf efh ech eu ew hh hn h0 hb (by omega)
  · exact absurd q2 hw
  · exact mp_no hL (by omega) hr (by omega) (by omega) q1 q2 hi
theorem mp_cI {k t nn s2 c : Int32} (hT : TBL (FR n f) g ((2 ^ h.toInt.toNat + rest.toInt.toNat : Nat) : Int)) (et : t = (1 : Int32) <<< (k &&& 31)) (en : nn = t ^^^ (-1)) (es : s2 = rest &&& nn) (hp : c.toInt = PINf g s2.toInt) (h0 : 0 ≤ rest.toInt) (hb : rest.toInt ≤ 1023) (hr : rest.toInt.toNat < 2 ^ h.toInt.toNat) (hk : 0 ≤ k.toInt ∧ k.toInt ≤ 9) : MXI (FR n f) (clr rest.toInt.toNat k.toInt.toNat) c.toInt ∧ 0 ≤ c.toInt ∧ c.toInt ≤ 1023 := by
  have q := sb_clr et en es ⟨h0, hb⟩ hk
  have l := (clr_le (s := rest.toInt.toNat) (a := k.toInt.toNat) (by omega) (by omega)).1
  have m := TBL_in (s := clr rest.toInt.toNat k.toInt.toNat) hT q (by omega) (by omega) hp
  exact ⟨m, MX_bd (by omega) m⟩
theorem mp_yesI {fh ch k k' u w m m' c : Int32} (hL : ML (FR n f) (2 ^ h.toInt.toNat + rest.toInt.toNat) h.toInt.toNat k.toInt m.toInt) (wf : WFF n f) (efh : fh = f h.toNatClampNeg) (ech : ch = rest &&& fh) (eu : u = ch >>> (k &&& 31)) (ew : w = u &&& 1) (hw : w.toInt = 1) (hc : MXI (FR n f) (clr rest.toInt.toNat k.toInt.toNat) c.toInt) (hm : (m'.toInt = m.toInt ∧ c.toInt + 1 ≤ m.toInt) ∨ (m'.toInt = c.toInt + 1 ∧ m.toInt ≤ c.toInt + 1)) (hh : 0 ≤ h.toInt ∧ h.toInt < n) (hn : n ≤ 10) (h0 : 0 ≤ rest.toInt) (hb : rest.toInt ≤ 1023) (hr : rest.toInt.toNat < 2 ^ h.toInt.toNat) (hk : 0 ≤ k.toInt ∧ k.toInt < h.toInt) (hi : k'.toInt = k.toInt + 1) : ML (FR n f) (2 ^ h.toInt.toNat + rest.toInt.toNat) h.toInt.toNat k'.toInt m'.toInt := by
  obtain ⟨q1, ⟨-, q2⟩ | ⟨q2, -⟩⟩ := mp_bits wf efh ech eu ew hh hn h0 hb (by omega)
  · exact mp_yes hL (by omega) hr (by omega) (by omega) q1 q2 hc hm hi
  · omega
theorem mp_e {k m : Int32} (wf : WFF n f) (hL : ML (FR n f) (2 ^ h.toInt.toNat + rest.toInt.toNat) h.toInt.toNat k.toInt m.toInt) (hh : 0 ≤ h.toInt ∧ h.toInt < n) (hn : n ≤ 10) (hr : rest.toInt.toNat < 2 ^ h.toInt.toNat) (hk : h.toInt ≤ k.toInt) : MXI (FR n f) (2 ^ h.toInt.toNat + rest.toInt.toNat) m.toInt :=
  mp_fin (FR_sym wf hn) hL (by omega) hr (by omega)
theorem cp_st {rest' t idx v : Int32} (hT : TBL (FR n f) g ((2 ^ h.toInt.toNat + rest.toInt.toNat : Nat) : Int)) (hv : MXI (FR n f) (2 ^ h.toInt.toNat + rest.toInt.toNat) v.toInt) (et : t = (1 : Int32) <<< (h &&& 31)) (ei : idx = rest ||| t) (eg : g' = upd g idx.toNatClampNeg v) (hh : 0 ≤ h.toInt ∧ h.toInt ≤ 9) (h0 : 0 ≤ rest.toInt) (hr : rest.toInt < t.toInt) (hi : rest'.toInt = rest.toInt + 1) : TBL (FR n f) g' ((2 ^ h.toInt.toNat + rest'.toInt.toNat : Nat) : Int) := by
  have q := sb_shl et (by omega)
  have i := sb_or et ei hh h0 (by omega)
  refine TBL_st hT eg (by omega) i ?_ (by omega)
  rw [i, Int.toNat_natCast]
  exact hv
theorem cp_in (hT : TBL (FR n f) g ((2 ^ h.toInt.toNat : Nat) : Int)) (hr : rest.toInt = 0) : TBL (FR n f) g ((2 ^ h.toInt.toNat + rest.toInt.toNat : Nat) : Int) :=
  TBL_le hT (by omega)
theorem cp_nx {h' t : Int32} (hT : TBL (FR n f) g ((2 ^ h.toInt.toNat + rest.toInt.toNat : Nat) : Int)) (et : t = (1 : Int32) <<< (h &&& 31)) (hh : 0 ≤ h.toInt ∧ h.toInt ≤ 9) (hr : t.toInt ≤ rest.toInt) (hi : h'.toInt = h.toInt + 1) : TBL (FR n f) g ((2 ^ h'.toInt.toNat : Nat) : Int) := by
  have q := sb_shl et (by omega)
  have e := p2_s h.toInt.toNat
  rw [show h'.toInt.toNat = h.toInt.toNat + 1 from by omega]
  exact TBL_le hT (by omega)
theorem cp_z {h : Int32} (hh : h.toInt = 0) : TBL (FR n f) g ((2 ^ h.toInt.toNat : Nat) : Int) := by
  rw [hh]
  exact TBL_0 (by decide +kernel)
theorem cp_e {h : Int32} (hT : TBL (FR n f) g ((2 ^ h.toInt.toNat : Nat) : Int)) (hh : h.toInt = n) : TBL (FR n f) g ((2 ^ n.toNat : Nat) : Int) := by rw [hh] at hT; exact hT
theorem al_p2 {k t r : Int32} (et : t = (1 : Int32) <<< (k &&& 31)) (hk : 0 ≤ k.toInt ∧ k.toInt ≤ 10) (hr : r.toInt = t.toInt - 1) : r.toInt = ((2 ^ k.toInt.toNat - 1 : Nat) : Int) := by
  have q := sb_shl et hk
  have p : 0 < 2 ^ k.toInt.toNat := Nat.two_pow_pos _
  omega
end mps
/-! firstPartner, pairUp -/
def LFT (n h : Int) (s : Nat) : Prop := ∀ i : Nat, s.testBit i = true → h ≤ (i : Int) ∧ (i : Int) < n
section fpis
variable {n : Int} {f g : Nat → Int32} {h left : Int32}
theorem LFT_lt {s : Nat} {a : Int} (hl : LFT n a s) (h0 : 0 ≤ n) : s < 2 ^ n.toNat := set_lt (fun i hi => by have := (hl i hi).2; omega)
theorem fp_bits {fh ch k u w : Int32} (wf : WFF n f) (efh : fh = f h.toNatClampNeg) (ech : ch = left &&& fh) (eu : u = ch >>> (k &&& 31)) (ew : w = u &&& 1) (hh : 0 ≤ h.toInt ∧ h.toInt < n) (hn : n ≤ 10) (hb : 0 ≤ left.toInt ∧ left.toInt ≤ 1023) (hl : LFT n h.toInt left.toInt.toNat) (hk : 0 ≤ k.toInt ∧ k.toInt ≤ 9) : (w.toInt = 1 ∧ left.toInt.toNat.testBit k.toInt.toNat = true ∧ h.toInt.toNat < k.toInt.toNat ∧ FR n f h.toInt.toNat k.toInt.toNat) ∨ (w.toInt = 0 ∧ ¬ (left.toInt.toNat.testBit k.toInt.toNat = true ∧ FR n f h.toInt.toNat k.toInt.toNat)) := by
  obtain ⟨q1, ⟨e, q2⟩ | ⟨e, q2⟩⟩ := mp_bits wf efh ech eu ew hh hn hb.1 hb.2 hk
  · have q3 := Bool.and_eq_true_iff.mp q2
    have q4 := (hl _ q3.1).1
    have q5 := q1.mpr q3.2
    have q6 := (wf h.toInt.toNat (by omega) (by omega)).2 _ q5.2.2
    exact Or.inl ⟨e, q3.1, by omega, q5⟩
  · refine Or.inr ⟨e, fun z => ?_⟩
    rw [z.1, q1.mp z.2] at q2
    cases q2
theorem fp_c {k a b c nn s2 p : Int32} (hT : TBL (FR n f) g ((2 ^ n.toNat : Nat) : Int)) (ea : a = (1 : Int32) <<< (h &&& 31)) (eb : b = (1 : Int32) <<< (k &&& 31)) (ec : c = a ||| b) (en : nn = c ^^^ (-1)) (es : s2 = left &&& nn) (hp : p.toInt = PINf g s2.toInt) (hb : 0 ≤ left.toInt ∧ left.toInt ≤ 1023) (hl : LFT n h.toInt left.toInt.toNat) (hh : 0 ≤ h.toInt ∧ h.toInt < n) (hn : n ≤ 10) (hk : 0 ≤ k.toInt ∧ k.toInt ≤ 9) : p.toInt = mvl (FR n f) (clr (clr left.toInt.toNat h.toInt.toNat) k.toInt.toNat) ∧ 0 ≤ p.toInt ∧ p.toInt ≤ 1023 := by
  have q := sb_clr2 ea eb ec en es hb (by omega) hk
  have l1 := (clr_le (s := left.toInt.toNat) (a := h.toInt.toNat) (by omega) (by omega)).1
  have l2 := (clr_le (s := clr left.toInt.toNat h.toInt.toNat) (a := k.toInt.toNat) (by omega) (by omega)).1
  have l3 := LFT_lt hl (by omega)
  have m := TBL_in (s := clr (clr left.toInt.toNat h.toInt.toNat) k.toInt.toNat) hT q (by omega) (by omega) hp
  exact ⟨mv_of m, MX_bd (by omega) m⟩
theorem fp_a {p : Int32} (hT : TBL (FR n f) g ((2 ^ n.toNat : Nat) : Int)) (hp : p.toInt = PINf g left.toInt) (hb : 0 ≤ left.toInt ∧ left.toInt ≤ 1023) (hl : LFT n h.toInt left.toInt.toNat) (h0 : 0 ≤ n) : p.toInt = mvl (FR n f) left.toInt.toNat := by
  have l3 := LFT_lt hl h0
  exact mv_of (TBL_in (s := left.toInt.toNat) hT (by omega) (by omega) hb.2 hp)
theorem fp_i {k : Int32} (hk : k.toInt = 0) : ∀ j : Nat, (j : Int) < k.toInt → ¬ fpc (FR n f) left.toInt.toNat h.toInt.toNat j := fun j hj => absurd hj (by omega)
theorem fp_s {k k' : Int32} (q : ∀ j : Nat, (j : Int) < k.toInt → ¬ fpc (FR n f) left.toInt.toNat h.toInt.toNat j) (hk : 0 ≤ k.toInt) (hi : k'.toInt = k.toInt + 1) (c : ¬ fpc (FR n f) left.toInt.toNat h.toInt.toNat k.toInt.toNat) : ∀ j : Nat, (j : Int) < k'.toInt → ¬ fpc (FR n f) left.toInt.toNat h.toInt.toNat j := by
  intro j hj
  by_cases e : (j : Int) < k.toInt
  · exact q j e
  · rw [show j = k.toInt.toNat from by omega]
    exact c
theorem fp_c0 {k w : Int32} (b : (w.toInt = 1 ∧ left.toInt.toNat.testBit k.toInt.toNat = true ∧ h.toInt.toNat < k.toInt.toNat ∧ FR n f h.toInt.toNat k.toInt.toNat) ∨ (w.toInt = 0 ∧ ¬ (left.toInt.toNat.testBit k.toInt.toNat = true ∧ FR n f h.toInt.toNat k.toInt.toNat))) (hw : w.toInt ≠ 1) : ¬ fpc (FR n f) left.toInt.toNat h.toInt.toNat k.toInt.toNat := by
  rcases b with ⟨b, -⟩ | ⟨-, b⟩
  · exact absurd b hw
  · exact fun z => b ⟨z.1, z.2.2.1⟩
theorem fp_c1 {k p r : Int32} (e1 : p.toInt = mvl (FR n f) (clr (clr left.toInt.toNat h.toInt.toNat) k.toInt.toNat)) (e2 : r.toInt = mvl (FR n f) left.toInt.toNat) (hc : p.toInt + 1 ≠ r.toInt) : ¬ fpc (FR n f) left.toInt.toNat h.toInt.toNat k.toInt.toNat :=
  fun z => hc (by have q := z.2.2.2; omega)
theorem fp_r {k w p r : Int32} (q : ∀ j : Nat, (j : Int) < k.toInt → ¬ fpc (FR n f) left.toInt.toNat h.toInt.toNat j) (b : (w.toInt = 1 ∧ left.toInt.toNat.testBit k.toInt.toNat = true ∧ h.toInt.toNat < k.toInt.toNat ∧ FR n f h.toInt.toNat k.toInt.toNat) ∨ (w.toInt = 0 ∧ ¬ (left.toInt.toNat.testBit k.toInt.toNat = true ∧ FR n f h.toInt.toNat k.toInt.toNat))) (hw : w.toInt = 1) (e1 : p.toInt = mvl (FR n f) (clr (clr left.toInt.toNat h.toInt.toNat) k.toInt.toNat)) (e2 : r.toInt = mvl (FR n f) left.toInt.toNat) (hc : p.toInt + 1 = r.toInt) (hk : 0 ≤ k.toInt ∧ k.toInt < n) : k.toInt = fpN (FR n f) left.toInt.toNat h.toInt.toNat n.toNat := by
  rcases b with ⟨-, b1, b2, b3⟩ | ⟨b, -⟩
  · rw [fp_hit (o := k.toInt.toNat) (fun j hj => q j (by omega)) ⟨b1, b2, b3, by omega⟩ n.toNat (by omega)]
    omega
  · omega
theorem fp_z {k r : Int32} (q : ∀ j : Nat, (j : Int) < k.toInt → ¬ fpc (FR n f) left.toInt.toNat h.toInt.toNat j) (hk : n ≤ k.toInt) (hr : r.toInt = -1) : r.toInt = fpN (FR n f) left.toInt.toNat h.toInt.toNat n.toNat := by
  rw [fp_no n.toNat (fun j hj => q j (by omega))]
  exact hr
end fpis
def PU (F : Nat → Nat → Prop) (n h left : Int) (pa : Nat → Int32) : Prop := (0 ≤ left ∧ left ≤ 1023) ∧ LFT n h left.toNat ∧ ∀ x : Nat, (x : Int) < n → (left.toNat.testBit x = true → prr F n.toNat x n.toNat (2 ^ n.toNat - 1) = prr F n.toNat x (n.toNat - h.toNat) left.toNat) ∧ (left.toNat.testBit x = false → (pa x).toInt = prr F n.toNat x n.toNat (2 ^ n.toNat - 1))
section pus
variable {F : Nat → Nat → Prop} {n : Int} {pa pa' pa2 : Nat → Int32} {h h' left : Int32}
theorem PU_i (hl : left.toInt = ((2 ^ n.toNat - 1 : Nat) : Int)) (hh : h.toInt = 0) (hn : 0 ≤ n ∧ n ≤ 10) : PU F n h.toInt left.toInt pa := by
  have p := p2_le (n := n.toNat) (by omega)
  have e : left.toInt.toNat = 2 ^ n.toNat - 1 := by omega
  refine ⟨by omega, ?_, ?_⟩
  · rw [e]
    intro i hi
    have q := all_t.mp hi
    omega
  · rw [e, hh]
    intro x hx
    refine ⟨fun _ => by rw [show n.toNat - (0 : Int).toNat = n.toNat from rfl], fun z => ?_⟩
    rw [all_t.mpr (show x < n.toNat by omega)] at z
    cases z
theorem PU_no (q : PU F n h.toInt left.toInt pa) (hb : left.toInt.toNat.testBit h.toInt.toNat = false) (hh : 0 ≤ h.toInt ∧ h.toInt < n) (hi : h'.toInt = h.toInt + 1) : PU F n h'.toInt left.toInt pa := by
  obtain ⟨q0, q1, q2⟩ := q
  refine ⟨q0, fun i hl => ?_, fun x hx => ⟨fun z => ?_, (q2 x hx).2⟩⟩
  · have q3 := q1 i hl
    by_cases c : i = h.toInt.toNat
    · rw [c, hb] at hl; cases hl
    · omega
  · rw [(q2 x hx).1 z, show n.toNat - h.toInt.toNat = (n.toNat - h'.toInt.toNat) + 1 from by omega]
    exact prr_no (h := h.toInt.toNat) (by omega) (by omega) hb
theorem PU_go {o left' : Int} (q : PU F n h.toInt left.toInt pa) (hb : left.toInt.toNat.testBit h.toInt.toNat = true) (hh : 0 ≤ h.toInt ∧ h.toInt < n) (hn : n ≤ 10) (ho : o = fpN F left.toInt.toNat h.toInt.toNat n.toNat) (hl : left' = ((drp left.toInt.toNat h.toInt.toNat o : Nat) : Int)) (hi : h'.toInt = h.toInt + 1) (h1 : (pa' h.toInt.toNat).toInt = o) (h2 : o ≠ -1 → (pa' o.toNat).toInt = h.toInt) (h3 : ∀ x : Nat, x ≠ h.toInt.toNat → (x : Int) ≠ o → pa' x = pa x) : PU F n h'.toInt left' pa' := by
  obtain ⟨q0, q1, q2⟩ := q
  have hs : left.toInt.toNat < 1024 := by omega
  have hf := fp_ex (F := F) (s := left.toInt.toNat) (h := h.toInt.toNat) n.toNat
  have hin : ∀ i : Nat, (drp left.toInt.toNat h.toInt.toNat o).testBit i = true ↔ left.toInt.toNat.testBit i = true ∧ i ≠ h.toInt.toNat ∧ (i : Int) ≠ o := by
    intro i
    unfold drp
    by_cases c : o = -1
    · rw [if_pos c, in_clr]
      exact ⟨fun z => ⟨z.1, fun e => z.2 e.symm, by omega⟩, fun z => ⟨z.1, fun e => z.2.1 e.symm⟩⟩
    · rw [if_neg c, in_clr, in_clr]
      have hp : 0 ≤ o := by rcases hf with e | ⟨j, -, e, -⟩ <;> omega
      exact ⟨fun z => ⟨z.1.1, fun e => z.1.2 e.symm, fun e => z.2 (by omega)⟩, fun z => ⟨⟨z.1, fun e => z.2.1 e.symm⟩, fun e => z.2.2 (by omega)⟩⟩
  have hd : drp left.toInt.toNat h.toInt.toNat o ≤ left.toInt.toNat := by
    unfold drp
    have l1 := (clr_le (a := h.toInt.toNat) hs (by omega)).1
    by_cases c : o = -1
    · rw [if_pos c]; exact l1
    · rw [if_neg c]
      have hp : o < n := by rcases hf with e | ⟨j, hj, e, -⟩ <;> omega
      have l2 := (clr_le (s := clr left.toInt.toNat h.toInt.toNat) (a := o.toNat) (by omega) (by omega)).1
      omega
  have el : left'.toNat = drp left.toInt.toNat h.toInt.toNat o := by omega
  refine ⟨by omega, ?_, ?_⟩
  · rw [el]
    intro i hb2
    have z := (hin i).mp hb2
    have w := q1 i z.1
    omega
  · rw [el]
    intro x hx
    have ef : n.toNat - h.toInt.toNat = (n.toNat - h'.toInt.toNat) + 1 := by omega
    refine ⟨fun z => ?_, fun z => ?_⟩
    · have w := (hin x).mp z
      rw [(q2 x hx).1 w.1, ef, ho]
      exact prr_on (h := h.toInt.toNat) (by omega) (by omega) hb w.2.1 (by rw [← ho]; exact w.2.2)
    · by_cases c1 : x = h.toInt.toNat
      · rw [c1, h1, ho, ← c1, (q2 x hx).1 (by rw [c1]; exact hb), ef, c1]
        exact (prr_me (h := h.toInt.toNat) (by omega) (by omega) hb rfl).symm
      · by_cases c2 : (x : Int) = o
        · have hxs : left.toInt.toNat.testBit x = true := by
            rcases hf with e | ⟨j, -, e, hc⟩
            · omega
            · rw [show x = j from by omega]; exact hc.1
          rw [show x = o.toNat from by omega, h2 (by omega), ← show x = o.toNat from by omega, (q2 x hx).1 hxs, ef]
          rw [prr_ot (h := h.toInt.toNat) (by omega) (by omega) hb c1 (by rw [c2]; exact ho)]
          omega
        · rw [h3 x c1 c2]
          refine (q2 x hx).2 ?_
          rcases hbx : left.toInt.toNat.testBit x with _ | _
          · rfl
          · rw [(hin x).mpr ⟨hbx, c1, c2⟩] at z
            cases z
theorem PU_one {o t nn left' : Int32} (q : PU F n h.toInt left.toInt pa) (hb : left.toInt.toNat.testBit h.toInt.toNat = true) (hh : 0 ≤ h.toInt ∧ h.toInt < n) (hn : n ≤ 10) (ho : o.toInt = fpN F left.toInt.toNat h.toInt.toNat n.toNat) (hm : o.toInt = -1) (ep : pa' = upd pa h.toNatClampNeg o) (et : t = (1 : Int32) <<< (h &&& 31)) (en : nn = t ^^^ (-1)) (el : left' = left &&& nn) (hi : h'.toInt = h.toInt + 1) : PU F n h'.toInt left'.toInt pa' := by
  have z := hst_w ep hh.1 rfl
  refine PU_go (o := o.toInt) q hb hh hn ho ?_ hi (by rw [z.1]) (fun c => absurd hm c) (fun x hx _ => z.2 x hx)
  unfold drp
  rw [if_pos hm]
  exact sb_clr et en el q.1 (by omega)
theorem PU_two {o t nn l1 t2 n2 left' : Int32} (q : PU F n h.toInt left.toInt pa) (hb : left.toInt.toNat.testBit h.toInt.toNat = true) (hh : 0 ≤ h.toInt ∧ h.toInt < n) (hn : n ≤ 10) (ho : o.toInt = fpN F left.toInt.toNat h.toInt.toNat n.toNat) (hm : 0 ≤ o.toInt ∧ o.toInt ≤ 9) (ep : pa' = upd pa h.toNatClampNeg o) (ep2 : pa2 = upd pa' o.toNatClampNeg h) (et : t = (1 : Int32) <<< (h &&& 31)) (en : nn = t ^^^ (-1)) (el : l1 = left &&& nn) (et2 : t2 = (1 : Int32) <<< (o &&& 31)) (en2 : n2 = t2 ^^^ (-1)) (el2 : left' = l1 &&& n2) (hi : h'.toInt = h.toInt + 1) : PU F n h'.toInt left'.toInt pa2 := by
  have z := hst_w ep hh.1 rfl
  have z2 := hst_w ep2 hm.1 rfl
  have hlt : h.toInt.toNat < o.toInt.toNat := by
    rcases fp_ex (F := F) (s := left.toInt.toNat) (h := h.toInt.toNat) n.toNat with e | ⟨j, -, e, hc⟩
    · omega
    · have := hc.2.1; omega
  have c1 := sb_clr et en el q.1 (by omega)
  have l1b := (clr_le (s := left.toInt.toNat) (a := h.toInt.toNat) (by have := q.1; omega) (by omega)).1
  have c2 := sb_clr et2 en2 el2 (by have := q.1; omega) hm
  refine PU_go (o := o.toInt) q hb hh hn ho ?_ hi ?_ (fun _ => by rw [z2.1]) (fun x hx hxo => ?_)
  · unfold drp
    rw [if_neg (by omega), c2, c1, Int.toNat_natCast]
  · rw [z2.2 _ (by omega), z.1]
  · rw [z2.2 x (by omega), z.2 x hx]
theorem PU_e (q : PU F n h.toInt left.toInt pa) (hh : n ≤ h.toInt) (x : Nat) (hx : (x : Int) < n) : (pa x).toInt = prr F n.toNat x n.toNat (2 ^ n.toNat - 1) := by
  obtain ⟨-, q1, q2⟩ := q
  refine (q2 x hx).2 ?_
  rcases hb : left.toInt.toNat.testBit x with _ | _
  · rfl
  · have := q1 x hb; omega
end pus
theorem pu_all {n : Int} {f g : Nat → Int32} {a r : Int32} (hT : TBL (FR n f) g ((2 ^ n.toNat : Nat) : Int)) (ha : a.toInt = ((2 ^ n.toNat - 1 : Nat) : Int)) (hr : r.toInt = PINf g a.toInt) (hn : 0 ≤ n ∧ n ≤ 10) : r.toInt = mvl (FR n f) (2 ^ n.toNat - 1) := by
  have p := p2_le (n := n.toNat) (by omega)
  have p0 : 0 < 2 ^ n.toNat := Nat.two_pow_pos _
  exact mv_of (TBL_in (s := 2 ^ n.toNat - 1) hT ha (by omega) (by omega) hr)
theorem RM_all {n what r : Int} {f : Nat → Int32} (hr : r = mvl (FR n f) (2 ^ n.toNat - 1)) (hw : what = 0) : r = RMA f n what := by
  unfold RMA
  rw [if_pos hw]
  exact hr
theorem RM_of {n what : Int} {f pa : Nat → Int32} {i v : Int32} (hq : ∀ x : Nat, (x : Int) < n → (pa x).toInt = prr (FR n f) n.toNat x n.toNat (2 ^ n.toNat - 1)) (ev : v = pa i.toNatClampNeg) (hi : i.toInt = what - 10) (hw : 10 ≤ what ∧ what < 10 + n) : v.toInt = RMA f n what := by
  unfold RMA
  have q := idxI (x := i) (by omega)
  rw [if_neg (by omega), if_pos hw, ev, hq _ (by omega), show i.toNatClampNeg = (what - 10).toNat from by omega]
theorem RM_no {n what r : Int} {f : Nat → Int32} (h0 : what ≠ 0) (hw : ¬ (10 ≤ what ∧ what < 10 + n)) (hr : r = -1) : r = RMA f n what := by
  unfold RMA
  rw [if_neg h0, if_neg hw]
  exact hr
/-! the reference: lowest, pairsBy, findsPairs, mateOf, roomOf -/
def LOW (s h : Nat) : Prop := s.testBit h = true ∧ ∀ i : Nat, i < h → s.testBit i = false
theorem LOW_of {x k u w : Int32} (lb : ∀ j : Nat, (j : Int) < k.toInt → x.toInt.toNat.testBit j = false) (eu : u = x >>> (k &&& 31)) (ew : w = u &&& 1) (hx : 0 ≤ x.toInt ∧ x.toInt ≤ 1023) (hk : 0 ≤ k.toInt ∧ k.toInt ≤ 9) (hw : w.toInt ≠ 0) : LOW x.toInt.toNat k.toInt.toNat := by
  refine ⟨?_, fun i hi => lb i (by omega)⟩
  rcases sb_bit eu ew hx hk with ⟨-, b⟩ | ⟨b, -⟩
  · exact b
  · exact absurd b hw
theorem LOW_u {s a b : Nat} (h : LOW s a) (h2 : LOW s b) : a = b := by
  rcases Nat.lt_trichotomy a b with q | q | q
  · have e := h2.2 a q; rw [h.1] at e; cases e
  · exact q
  · have e := h.2 b q; rw [h2.1] at e; cases e
def TBZ (F : Nat → Nat → Prop) (g : Nat → Int32) (B : Int) : Prop := (g 0).toInt = 0 ∧ TBL F g B
section tbz
variable {n : Int} {f g g' : Nat → Int32} {x h : Int32}
theorem TBZ_at {F : Nat → Nat → Prop} {B : Int} {z c : Int32} {s : Nat} (hT : TBZ F g B) (ec : c = g z.toNatClampNeg) (hz : z.toInt = (s : Int)) (hB : z.toInt < B) : MXI F s c.toInt := by
  have q := idxI (x := z) (by omega)
  rw [ec, show z.toNatClampNeg = s from by omega]
  by_cases c0 : s = 0
  · subst c0; rw [hT.1]; exact MX_0
  · exact hT.2 s (by omega) (by omega)
theorem TBZ_le {F : Nat → Nat → Prop} {B B' : Int} (hT : TBZ F g B) (hB : B' ≤ B) : TBZ F g B' := ⟨hT.1, TBL_le hT.2 hB⟩
theorem TBZ_0 {F : Nat → Nat → Prop} {B : Int} {i v : Int32} (eg : g' = upd g i.toNatClampNeg v) (hi : i.toInt = 0) (hv : v.toInt = 0) (hB : B = 1) : TBZ F g' B := by
  have z := hst_w eg (by omega) hi
  exact ⟨by rw [show (0 : Nat) = (0 : Int).toNat from rfl, z.1]; exact hv, TBL_0 (by omega)⟩
theorem TBZ_st {F : Nat → Nat → Prop} {i i' v : Int32} (hT : TBZ F g i.toInt) (eg : g' = upd g i.toNatClampNeg v) (hi : 1 ≤ i.toInt) (hv : MXI F i.toInt.toNat v.toInt) (hi' : i'.toInt = i.toInt + 1) : TBZ F g' i'.toInt := by
  have z := hst_w eg (by omega) rfl
  exact ⟨by rw [z.2 0 (by omega)]; exact hT.1, TBL_st hT.2 eg (by omega) rfl hv hi'⟩
theorem pb_x {o t1 n1 s1 t2 n2 s2 : Int32} (e1 : t1 = (1 : Int32) <<< (h &&& 31)) (e2 : n1 = t1 ^^^ (-1)) (e3 : s1 = x &&& n1) (e4 : t2 = (1 : Int32) <<< (o &&& 31)) (e5 : n2 = t2 ^^^ (-1)) (e6 : s2 = s1 &&& n2) (hx : 1 ≤ x.toInt ∧ x.toInt ≤ 1023) (hh : 0 ≤ h.toInt ∧ h.toInt ≤ 9) (ho : 0 ≤ o.toInt ∧ o.toInt ≤ 9) (hb : x.toInt.toNat.testBit h.toInt.toNat = true) : s2.toInt = ((clr (clr x.toInt.toNat h.toInt.toNat) o.toInt.toNat : Nat) : Int) ∧ s2.toInt < x.toInt := by
  have q1 := sb_clr e1 e2 e3 (by omega) hh
  have l1 := (clr_le (s := x.toInt.toNat) (a := h.toInt.toNat) (by omega) (by omega)).2 hb
  have q2 := sb_clr e4 e5 e6 (by omega) ho
  have l2 := (clr_le (s := clr x.toInt.toNat h.toInt.toNat) (a := o.toInt.toNat) (by omega) (by omega)).1
  rw [q1, Int.toNat_natCast] at q2
  exact ⟨q2, by omega⟩
theorem pb_c {o t1 n1 s1 t2 n2 s2 c : Int32} (hT : TBZ (FR n f) g x.toInt) (e1 : t1 = (1 : Int32) <<< (h &&& 31)) (e2 : n1 = t1 ^^^ (-1)) (e3 : s1 = x &&& n1) (e4 : t2 = (1 : Int32) <<< (o &&& 31)) (e5 : n2 = t2 ^^^ (-1)) (e6 : s2 = s1 &&& n2) (ec : c = g s2.toNatClampNeg) (hx : 1 ≤ x.toInt ∧ x.toInt ≤ 1023) (hh : 0 ≤ h.toInt ∧ h.toInt ≤ 9) (ho : 0 ≤ o.toInt ∧ o.toInt ≤ 9) (hb : x.toInt.toNat.testBit h.toInt.toNat = true) : MXI (FR n f) (clr (clr x.toInt.toNat h.toInt.toNat) o.toInt.toNat) c.toInt ∧ 0 ≤ c.toInt ∧ c.toInt ≤ 1023 := by
  have q := pb_x e1 e2 e3 e4 e5 e6 hx hh ho hb
  have m := TBZ_at hT ec q.1 q.2
  have l1 := (clr_le (s := x.toInt.toNat) (a := h.toInt.toNat) (by omega) (by omega)).1
  have l2 := (clr_le (s := clr x.toInt.toNat h.toInt.toNat) (a := o.toInt.toNat) (by omega) (by omega)).1
  exact ⟨m, MX_bd (by omega) m⟩
theorem pb_r {s : Nat} {c r : Int32} (m : MXI (FR n f) s c.toInt ∧ 0 ≤ c.toInt ∧ c.toInt ≤ 1023) (hr : r.toInt = 1 + c.toInt) : MXI (FR n f) s (r.toInt - 1) ∧ 1 ≤ r.toInt ∧ r.toInt ≤ 1024 := by
  rw [show r.toInt - 1 = c.toInt from by omega]
  exact ⟨m.1, by omega⟩
theorem fq_i {m z c k : Int32} (hT : TBZ (FR n f) g x.toInt) (hm : m.toInt = x.toInt - 1) (ez : z = x &&& m) (ec : c = g z.toNatClampNeg) (lo : LOW x.toInt.toNat h.toInt.toNat) (hx : 1 ≤ x.toInt ∧ x.toInt ≤ 1023) (hh : 0 ≤ h.toInt ∧ h.toInt ≤ 9) (hk : k.toInt = h.toInt + 1) : ML (FR n f) x.toInt.toNat h.toInt.toNat k.toInt c.toInt := by
  have q := sb_low hm ez hx (by omega) lo.1 lo.2
  have l1 := (clr_le (s := x.toInt.toNat) (a := h.toInt.toNat) (by omega) (by omega)).2 lo.1
  refine ML_init (TBZ_at hT ec q (by omega)) (fun o ho hs => ?_)
  rcases Nat.lt_trichotomy o h.toInt.toNat with q2 | q2 | q2
  · rw [lo.2 o q2] at hs; cases hs
  · exact q2.symm
  · omega
theorem fq_n1 {k k' u w m : Int32} (hL : ML (FR n f) x.toInt.toNat h.toInt.toNat k.toInt m.toInt) (eu : u = x >>> (k &&& 31)) (ew : w = u &&& 1) (hx : 0 ≤ x.toInt ∧ x.toInt ≤ 1023) (hk : 0 ≤ k.toInt ∧ k.toInt ≤ 9) (hw : w.toInt ≠ 1) (hi : k'.toInt = k.toInt + 1) : ML (FR n f) x.toInt.toNat h.toInt.toNat k'.toInt m.toInt := by
  refine ML_skip (k := k.toInt.toNat) hL (by omega) (fun z => ?_) hi
  rcases sb_bit eu ew hx hk with ⟨b, -⟩ | ⟨-, b⟩
  · exact hw b
  · rw [z.1] at b; cases b
theorem fq_f {fh k u w : Int32} (wf : WFF n f) (ef : fh = f h.toNatClampNeg) (eu : u = fh >>> (k &&& 31)) (ew : w = u &&& 1) (hh : 0 ≤ h.toInt ∧ h.toInt < n) (hn : n ≤ 10) (hk : 0 ≤ k.toInt ∧ k.toInt ≤ 9) : (w.toInt = 1 ∧ FR n f h.toInt.toNat k.toInt.toNat) ∨ (w.toInt = 0 ∧ ¬ FR n f h.toInt.toNat k.toInt.toNat) := by
  have q := fr_at wf ef hh.1 hh.2 (by omega)
  rcases sb_bit eu ew q.1 hk with ⟨b, c⟩ | ⟨b, c⟩
  · exact Or.inl ⟨b, (q.2 _).mpr c⟩
  · refine Or.inr ⟨b, fun z => ?_⟩
    rw [(q.2 _).mp z] at c
    cases c
theorem fq_n2 {k k' w m : Int32} (hL : ML (FR n f) x.toInt.toNat h.toInt.toNat k.toInt m.toInt) (b : (w.toInt = 1 ∧ FR n f h.toInt.toNat k.toInt.toNat) ∨ (w.toInt = 0 ∧ ¬ FR n f h.toInt.toNat k.toInt.toNat)) (hk : 0 ≤ k.toInt) (hw : w.toInt ≠ 1) (hi : k'.toInt = k.toInt + 1) : ML (FR n f) x.toInt.toNat h.toInt.toNat k'.toInt m.toInt := by
  refine ML_skip (k := k.toInt.toNat) hL (by omega) (fun z => ?_) hi
  rcases b with ⟨b, -⟩ | ⟨-, b⟩
  · exact hw b
  · exact b z.2
theorem fq_y {k k' u w w2 m c m' : Int32} (hL : ML (FR n f) x.toInt.toNat h.toInt.toNat k.toInt m.toInt) (lo : LOW x.toInt.toNat h.toInt.toNat) (eu : u = x >>> (k &&& 31)) (ew : w = u &&& 1) (hx : 0 ≤ x.toInt ∧ x.toInt ≤ 1023) (hk : 0 ≤ k.toInt ∧ k.toInt ≤ 9) (hw : w.toInt = 1) (hkh : h.toInt < k.toInt) (hh : 0 ≤ h.toInt) (b : (w2.toInt = 1 ∧ FR n f h.toInt.toNat k.toInt.toNat) ∨ (w2.toInt = 0 ∧ ¬ FR n f h.toInt.toNat k.toInt.toNat)) (hw2 : w2.toInt = 1) (hc : MXI (FR n f) (clr (clr x.toInt.toNat h.toInt.toNat) k.toInt.toNat) (c.toInt - 1)) (hm : (m'.toInt = m.toInt ∧ c.toInt ≤ m.toInt) ∨ (m'.toInt = c.toInt ∧ m.toInt ≤ c.toInt)) (hi : k'.toInt = k.toInt + 1) : ML (FR n f) x.toInt.toNat h.toInt.toNat k'.toInt m'.toInt := by
  have b1 : x.toInt.toNat.testBit k.toInt.toNat = true := by
    rcases sb_bit eu ew hx hk with ⟨-, b⟩ | ⟨b, -⟩
    · exact b
    · omega
  have b2 : FR n f h.toInt.toNat k.toInt.toNat := by
    rcases b with ⟨-, b⟩ | ⟨b, -⟩
    · exact b
    · omega
  exact ML_take (k := k.toInt.toNat) hL (by omega) lo.1 b1 (by omega) b2 hc (by omega) hi
theorem fq_e {k m t : Int32} {hs : Int32} (wf : WFF n f) (hL : ML (FR n f) x.toInt.toNat h.toInt.toNat k.toInt m.toInt) (hn : 0 ≤ n ∧ n ≤ 10) (hk : n ≤ k.toInt) (et : t = (1 : Int32) <<< (hs &&& 31)) (hs0 : hs.toInt = n) (hx : 0 ≤ x.toInt ∧ x.toInt < t.toInt) : MXI (FR n f) x.toInt.toNat m.toInt := by
  have q := sb_shl et (by omega)
  refine ML_fin (FR_sym wf hn.2) hL (fun o ho _ => ?_)
  have := ad2_l (h := hs.toInt.toNat) (by omega) ho
  omega
theorem fq_h {hs t : Int32} (lo : LOW x.toInt.toNat h.toInt.toNat) (et : t = (1 : Int32) <<< (hs &&& 31)) (hs0 : hs.toInt = n) (hn : 0 ≤ n ∧ n ≤ 10) (hx : 0 ≤ x.toInt ∧ x.toInt < t.toInt) (h0 : 0 ≤ h.toInt) : h.toInt < n := by
  have q := sb_shl et (by omega)
  have := ad2_l (h := hs.toInt.toNat) (by omega) lo.1
  omega
theorem mt_h (lo : LOW x.toInt.toNat h.toInt.toNat) (hx : x.toInt.toNat < 2 ^ n.toNat) (h0 : 0 ≤ h.toInt) : h.toInt < n := by
  have := ad2_l hx lo.1
  omega
theorem p2_e {t hs k : Int32} {F : Nat → Nat → Prop} (hT : TBZ F g k.toInt) (et : t = (1 : Int32) <<< (hs &&& 31)) (hs0 : hs.toInt = n) (hn : 0 ≤ n ∧ n ≤ 10) (hk : t.toInt ≤ k.toInt) : TBZ F g ((2 ^ n.toNat : Nat) : Int) := by
  have q := sb_shl et (by omega)
  rw [hs0] at q
  exact TBZ_le hT (by omega)
/-! mateOf -/
theorem mt_i {k : Int32} (hk : k.toInt = h.toInt + 1) (hh : 0 ≤ h.toInt) : ∀ j : Nat, (j : Int) < k.toInt → ¬ fpc (FR n f) x.toInt.toNat h.toInt.toNat j := fun j hj z => by
  have := z.2.1
  omega
theorem mt_n1 {k u w : Int32} (eu : u = x >>> (k &&& 31)) (ew : w = u &&& 1) (hx : 0 ≤ x.toInt ∧ x.toInt ≤ 1023) (hk : 0 ≤ k.toInt ∧ k.toInt ≤ 9) (hw : w.toInt ≠ 1) : ¬ fpc (FR n f) x.toInt.toNat h.toInt.toNat k.toInt.toNat := by
  intro z
  rcases sb_bit eu ew hx hk with ⟨b, -⟩ | ⟨-, b⟩
  · exact hw b
  · rw [z.1] at b; cases b
theorem mt_n2 {k w : Int32} (b : (w.toInt = 1 ∧ FR n f h.toInt.toNat k.toInt.toNat) ∨ (w.toInt = 0 ∧ ¬ FR n f h.toInt.toNat k.toInt.toNat)) (hw : w.toInt ≠ 1) : ¬ fpc (FR n f) x.toInt.toNat h.toInt.toNat k.toInt.toNat := by
  intro z
  rcases b with ⟨b, -⟩ | ⟨-, b⟩
  · exact hw b
  · exact b z.2.2.1
theorem mt_m {r : Int32} (hT : TBZ (FR n f) g ((2 ^ n.toNat : Nat) : Int)) (er : r = g x.toNatClampNeg) (h0 : 0 ≤ x.toInt) (hx : x.toInt.toNat < 2 ^ n.toNat) : r.toInt = mvl (FR n f) x.toInt.toNat :=
  mv_of (TBZ_at hT er (by omega) (by omega))
theorem mt_n3 {k p r : Int32} (m : MXI (FR n f) (clr (clr x.toInt.toNat h.toInt.toNat) k.toInt.toNat) (p.toInt - 1)) (er : r.toInt = mvl (FR n f) x.toInt.toNat) (hc : p.toInt ≠ r.toInt) : ¬ fpc (FR n f) x.toInt.toNat h.toInt.toNat k.toInt.toNat := by
  intro z
  have q := z.2.2.2
  rw [← mv_of m] at q
  omega
theorem mt_r {k u w w2 p r : Int32} (q : ∀ j : Nat, (j : Int) < k.toInt → ¬ fpc (FR n f) x.toInt.toNat h.toInt.toNat j) (eu : u = x >>> (k &&& 31)) (ew : w = u &&& 1) (hx : 0 ≤ x.toInt ∧ x.toInt ≤ 1023) (hw : w.toInt = 1) (hkh : h.toInt < k.toInt) (hh : 0 ≤ h.toInt) (b : (w2.toInt = 1 ∧ FR n f h.toInt.toNat k.toInt.toNat) ∨ (w2.toInt = 0 ∧ ¬ FR n f h.toInt.toNat k.toInt.toNat)) (hw2 : w2.toInt = 1) (m : MXI (FR n f) (clr (clr x.toInt.toNat h.toInt.toNat) k.toInt.toNat) (p.toInt - 1)) (er : r.toInt = mvl (FR n f) x.toInt.toNat) (hc : p.toInt = r.toInt) (hk : k.toInt < n) (hn : n ≤ 10) : k.toInt = fpN (FR n f) x.toInt.toNat h.toInt.toNat n.toNat := by
  have b1 : x.toInt.toNat.testBit k.toInt.toNat = true := by
    rcases sb_bit eu ew hx (by omega) with ⟨-, b⟩ | ⟨b, -⟩
    · exact b
    · omega
  have b2 : FR n f h.toInt.toNat k.toInt.toNat := by
    rcases b with ⟨-, b⟩ | ⟨b, -⟩
    · exact b
    · omega
  rw [fp_hit (o := k.toInt.toNat) (fun j hj => q j (by omega)) ⟨b1, by omega, b2, by rw [← mv_of m]; omega⟩ n.toNat (by omega)]
  omega
end tbz
/-! roomOf -/
def RO (F : Nat → Nat → Prop) (n x s : Nat) : Prop := ∃ f : Nat, f ≤ n ∧ (∀ i : Nat, s.testBit i = true → n - f ≤ i ∧ i < n) ∧ prr F n x n (2 ^ n - 1) = prr F n x f s
section ros
variable {F : Nat → Nat → Prop} {n x s : Nat}
theorem RO_i (hs : s = 2 ^ n - 1) : RO F n x s := ⟨n, Nat.le_refl _, fun i hi => by
  rw [hs] at hi
  have := all_t.mp hi
  omega, by rw [hs]⟩
theorem RO_z (h : RO F n x s) (hs : s = 0) : prr F n x n (2 ^ n - 1) = -1 := by
  obtain ⟨f, -, -, e⟩ := h
  rw [e, hs]
  exact prr_z f
theorem RO_lt (h : RO F n x s) : s < 2 ^ n := by
  obtain ⟨f, -, b, -⟩ := h
  exact set_lt (fun i hi => (b i hi).2)
theorem RO_u {h : Nat} (q : RO F n x s) (lo : LOW s h) : h < n ∧ prr F n x n (2 ^ n - 1) = prr F n x ((n - h - 1) + 1) s := by
  obtain ⟨f, hf, b, e⟩ := q
  have hb := b h lo.1
  refine ⟨hb.2, ?_⟩
  rw [e, prr_skip (h := h) (by omega) lo.2 (f - (n - h)) f (by omega) hf, show n - h - 1 + 1 = n - h from by omega]
theorem RO_me {h : Nat} (q : RO F n x s) (lo : LOW s h) (hx : x = h) : prr F n x n (2 ^ n - 1) = fpN F s h n := by
  obtain ⟨hh, e⟩ := RO_u q lo
  rw [e]
  exact prr_me (by omega) hh lo.1 hx
theorem RO_ot {h : Nat} (q : RO F n x s) (lo : LOW s h) (hx : x ≠ h) (ho : (x : Int) = fpN F s h n) : prr F n x n (2 ^ n - 1) = (h : Int) := by
  obtain ⟨hh, e⟩ := RO_u q lo
  rw [e]
  exact prr_ot (by omega) hh lo.1 hx ho
theorem RO_go {h : Nat} {s' : Nat} (q : RO F n x s) (lo : LOW s h) (hx : x ≠ h) (ho : (x : Int) ≠ fpN F s h n) (hs : s' = drp s h (fpN F s h n)) : RO F n x s' := by
  obtain ⟨hh, e⟩ := RO_u q lo
  obtain ⟨f, hf, b, -⟩ := q
  refine ⟨n - h - 1, by omega, ?_, ?_⟩
  · intro i hi
    have hi2 : s.testBit i = true ∧ h ≠ i := by
      rw [hs] at hi
      unfold drp at hi
      by_cases c : fpN F s h n = -1
      · rw [if_pos c] at hi; exact in_clr.mp hi
      · rw [if_neg c] at hi; exact in_clr.mp (in_clr.mp hi).1
    have b1 := (b i hi2.1).2
    have b2 : ¬ i < h := fun z => by
      have e2 := lo.2 i z
      rw [hi2.1] at e2
      cases e2
    omega
  · rw [e, hs]
    exact prr_on (by omega) hh lo.1 hx ho
end ros
section roi
variable {n : Int} {f g : Nat → Int32} {x s h : Int32}
theorem ri_i {hs t : Int32} (et : t = (1 : Int32) <<< (hs &&& 31)) (e : s.toInt = t.toInt - 1) (hs0 : hs.toInt = n) (hn : 0 ≤ n ∧ n ≤ 10) : RO (FR n f) n.toNat x.toInt.toNat s.toInt.toNat := by
  have q := sb_shl et (by omega)
  rw [hs0] at q
  have p : 0 < 2 ^ n.toNat := Nat.two_pow_pos _
  exact RO_i (by omega)
theorem ri_z {r : Int32} (q : RO (FR n f) n.toNat x.toInt.toNat s.toInt.toNat) (hs : s.toInt = 0) (hr : r.toInt = -1) : r.toInt = prr (FR n f) n.toNat x.toInt.toNat n.toNat (2 ^ n.toNat - 1) := by
  rw [RO_z q (by omega)]
  exact hr
theorem ri_me {o : Int32} (q : RO (FR n f) n.toNat x.toInt.toNat s.toInt.toNat) (lo : LOW s.toInt.toNat h.toInt.toNat) (ho : o.toInt = fpN (FR n f) s.toInt.toNat h.toInt.toNat n.toNat) (hx : x.toInt = h.toInt) : o.toInt = prr (FR n f) n.toNat x.toInt.toNat n.toNat (2 ^ n.toNat - 1) := by
  rw [RO_me q lo (by rw [hx])]
  exact ho
theorem ri_ot {o : Int32} (q : RO (FR n f) n.toNat x.toInt.toNat s.toInt.toNat) (lo : LOW s.toInt.toNat h.toInt.toNat) (ho : o.toInt = fpN (FR n f) s.toInt.toNat h.toInt.toNat n.toNat) (hx : x.toInt ≠ h.toInt) (hxo : x.toInt = o.toInt) (h0 : 0 ≤ x.toInt) (hh : 0 ≤ h.toInt) : h.toInt = prr (FR n f) n.toNat x.toInt.toNat n.toNat (2 ^ n.toNat - 1) := by
  rw [RO_ot q lo (by omega) (by omega)]
  omega
theorem ri_one {o m s' : Int32} (q : RO (FR n f) n.toNat x.toInt.toNat s.toInt.toNat) (lo : LOW s.toInt.toNat h.toInt.toNat) (ho : o.toInt = fpN (FR n f) s.toInt.toNat h.toInt.toNat n.toNat) (hx : x.toInt ≠ h.toInt) (hxo : x.toInt ≠ o.toInt) (h0 : 0 ≤ x.toInt) (hh : 0 ≤ h.toInt ∧ h.toInt ≤ 9) (hs : 1 ≤ s.toInt ∧ s.toInt ≤ 1023) (em : m.toInt = s.toInt - 1) (es : s' = s &&& m) (hm : o.toInt = -1) : RO (FR n f) n.toNat x.toInt.toNat s'.toInt.toNat := by
  refine RO_go q lo (by omega) (by omega) ?_
  have z := sb_low em es hs (by omega) lo.1 lo.2
  unfold drp
  rw [if_pos (by omega)]
  omega
theorem ri_two {o m s1 t nn s' : Int32} (q : RO (FR n f) n.toNat x.toInt.toNat s.toInt.toNat) (lo : LOW s.toInt.toNat h.toInt.toNat) (ho : o.toInt = fpN (FR n f) s.toInt.toNat h.toInt.toNat n.toNat) (hx : x.toInt ≠ h.toInt) (hxo : x.toInt ≠ o.toInt) (h0 : 0 ≤ x.toInt) (hh : 0 ≤ h.toInt ∧ h.toInt ≤ 9) (hs : 1 ≤ s.toInt ∧ s.toInt ≤ 1023) (em : m.toInt = s.toInt - 1) (es : s1 = s &&& m) (et : t = (1 : Int32) <<< (o &&& 31)) (en : nn = t ^^^ (-1)) (es2 : s' = s1 &&& nn) (hm : 0 ≤ o.toInt ∧ o.toInt ≤ 9) : RO (FR n f) n.toNat x.toInt.toNat s'.toInt.toNat := by
  refine RO_go q lo (by omega) (by omega) ?_
  have z := sb_low em es hs (by omega) lo.1 lo.2
  have l1 := (clr_le (s := s.toInt.toNat) (a := h.toInt.toNat) (by omega) (by omega)).1
  have z2 := sb_clr et en es2 (by omega) hm
  unfold drp
  rw [if_neg (by omega), ← ho, z2, z, Int.toNat_natCast, Int.toNat_natCast]
theorem RM_ro {what r : Int} {x : Int32} (hr : r = prr (FR n f) n.toNat x.toInt.toNat n.toNat (2 ^ n.toNat - 1)) (hx : x.toInt = what - 10) (hw : 10 ≤ what ∧ what < 10 + n) : r = RMA f n what := by
  unfold RMA
  rw [if_neg (by omega), if_pos hw, hr, hx]
theorem RM_al {what : Int} {t hs m c : Int32} (hT : TBZ (FR n f) g ((2 ^ n.toNat : Nat) : Int)) (et : t = (1 : Int32) <<< (hs &&& 31)) (hs0 : hs.toInt = n) (hn : 0 ≤ n ∧ n ≤ 10) (hm : m.toInt = t.toInt - 1) (ec : c = g m.toNatClampNeg) (hw : what = 0) : c.toInt = RMA f n what := by
  have q := sb_shl et (by omega)
  rw [hs0] at q
  have p : 0 < 2 ^ n.toNat := Nat.two_pow_pos _
  exact RM_all (mv_of (TBZ_at hT ec (by omega) (by omega))) hw
end roi
/-! p18: friends on both sides -/
def fr1 (x k z : Int32) : Int32 := if z.toInt ≠ 0 then x ||| ((1 : Int32) <<< (k &&& 31)) else x &&& (((1 : Int32) <<< (k &&& 31)) ^^^ (-1))
def fru (f : Nat → Int32) (a b z : Int32) : Nat → Int32 := fun j => if j = a.toInt.toNat then fr1 (f j) b z else if j = b.toInt.toNat then fr1 (f j) a z else f j
def BF1 (f g : Nat → Int32) (a b z : Int32) : Prop := g a.toInt.toNat = fr1 (f a.toInt.toNat) b z ∧ ∀ j : Nat, j ≠ a.toInt.toNat → g j = f j
theorem bf_or {f g : Nat → Int32} {i x t v b z : Int32} (ex : x = f i.toNatClampNeg) (et : t = (1 : Int32) <<< (b &&& 31)) (ev : v = x ||| t) (eg : g = upd f i.toNatClampNeg v) (hi : 0 ≤ i.toInt) (hz : z.toInt ≠ 0) : BF1 f g i b z := by
  have q := hst_w eg hi rfl
  have q2 := idxI hi
  refine ⟨?_, q.2⟩
  unfold fr1
  rw [if_pos hz, q.1, ev, et, ex, show i.toNatClampNeg = i.toInt.toNat from by omega]
theorem bf_cl {f g : Nat → Int32} {i x t nn v b z : Int32} (ex : x = f i.toNatClampNeg) (et : t = (1 : Int32) <<< (b &&& 31)) (en : nn = t ^^^ (-1)) (ev : v = x &&& nn) (eg : g = upd f i.toNatClampNeg v) (hi : 0 ≤ i.toInt) (hz : z.toInt = 0) : BF1 f g i b z := by
  have q := hst_w eg hi rfl
  have q2 := idxI hi
  refine ⟨?_, q.2⟩
  unfold fr1
  rw [if_neg (fun h => h hz), q.1, ev, en, et, ex, show i.toNatClampNeg = i.toInt.toNat from by omega]
theorem bf_2 {f m g : Nat → Int32} {a b z : Int32} (h1 : BF1 f m a b z) (h2 : BF1 m g b a z) (ha : 0 ≤ a.toInt) (hb : 0 ≤ b.toInt) (hn : a.toInt ≠ b.toInt) : g = fru f a b z := by
  funext j
  unfold fru
  by_cases c : j = a.toInt.toNat
  · rw [if_pos c, h2.2 j (by omega), c, h1.1]
  · rw [if_neg c]
    by_cases d : j = b.toInt.toNat
    · rw [if_pos d, d, h2.1, h1.2 _ (by omega)]
    · rw [if_neg d, h2.2 j d, h1.2 j c]
theorem sbu_all : (List.range 1024).all (fun s => (List.range 10).all (fun j => decide ((nI s ||| ((1 : Int32) <<< (nI j &&& 31))).toInt = ((s ||| 2 ^ j : Nat) : Int) ∧ s ||| 2 ^ j < 1024))) = true := by decide +kernel
theorem fr1_t {x k z : Int32} (hx : 0 ≤ x.toInt ∧ x.toInt ≤ 1023) (hk : 0 ≤ k.toInt ∧ k.toInt ≤ 9) : (0 ≤ (fr1 x k z).toInt ∧ (fr1 x k z).toInt ≤ 1023) ∧ ∀ i : Nat, ((fr1 x k z).toInt.toNat.testBit i = true ↔ (z.toInt ≠ 0 ∧ (x.toInt.toNat.testBit i = true ∨ k.toInt.toNat = i)) ∨ (z.toInt = 0 ∧ x.toInt.toNat.testBit i = true ∧ k.toInt.toNat ≠ i)) := by
  by_cases c : z.toInt = 0
  · have e : fr1 x k z = x &&& (((1 : Int32) <<< (k &&& 31)) ^^^ (-1)) := by unfold fr1; rw [if_neg (fun h => h c)]
    have q := sb_clr (x := x) (k := k) rfl rfl rfl hx hk
    have l := (clr_le (s := x.toInt.toNat) (a := k.toInt.toNat) (by omega) (by omega)).1
    rw [e, q]
    refine ⟨by omega, fun i => ?_⟩
    rw [Int.toNat_natCast, in_clr]
    exact ⟨fun h => Or.inr ⟨c, h⟩, fun h => by rcases h with ⟨h, -⟩ | ⟨-, h⟩; exact absurd c h; exact h⟩
  · have e : fr1 x k z = x ||| ((1 : Int32) <<< (k &&& 31)) := by unfold fr1; rw [if_pos c]
    obtain ⟨a, ha, rfl, ea⟩ := n10 (b := 1023) hx (by decide)
    obtain ⟨j, hj, rfl, ej⟩ := n10 (b := 9) hk (by decide)
    have q := of_decide_eq_true (List.all_eq_true.mp (List.all_eq_true.mp sbu_all a (List.mem_range.mpr (by omega))) j (List.mem_range.mpr (by omega)))
    rw [e, q.1, ea, ej]
    refine ⟨by omega, fun i => ?_⟩
    rw [Int.toNat_natCast, Nat.testBit_or, Nat.testBit_two_pow]
    by_cases d : j = i
    · rw [decide_eq_true d, Bool.or_true]
      exact ⟨fun _ => Or.inl ⟨c, Or.inr d⟩, fun _ => rfl⟩
    · rw [decide_eq_false d, Bool.or_false]
      exact ⟨fun h => Or.inl ⟨c, Or.inl h⟩, fun h => by rcases h with ⟨-, h | h⟩ | ⟨h, -⟩; exact h; exact absurd h d; exact absurd h c⟩
theorem fru_t {f : Nat → Int32} {a b z : Int32} {i : Nat} (hr : 0 ≤ (f i).toInt ∧ (f i).toInt ≤ 1023) (ha : 0 ≤ a.toInt ∧ a.toInt ≤ 9) (hb : 0 ≤ b.toInt ∧ b.toInt ≤ 9) (hab : a.toInt ≠ b.toInt) : (0 ≤ (fru f a b z i).toInt ∧ (fru f a b z i).toInt ≤ 1023) ∧ ∀ j : Nat, ((fru f a b z i).toInt.toNat.testBit j = true ↔ (z.toInt ≠ 0 ∧ ((f i).toInt.toNat.testBit j = true ∨ (i = a.toInt.toNat ∧ j = b.toInt.toNat) ∨ (i = b.toInt.toNat ∧ j = a.toInt.toNat))) ∨ (z.toInt = 0 ∧ (f i).toInt.toNat.testBit j = true ∧ ¬ (i = a.toInt.toNat ∧ j = b.toInt.toNat) ∧ ¬ (i = b.toInt.toNat ∧ j = a.toInt.toNat))) := by
  by_cases c : i = a.toInt.toNat
  · have e : fru f a b z i = fr1 (f i) b z := by unfold fru; rw [if_pos c]
    have q := fr1_t (z := z) hr hb
    rw [e]
    refine ⟨q.1, fun j => (q.2 j).trans ⟨fun h => ?_, fun h => ?_⟩⟩
    · rcases h with ⟨h0, h | h⟩ | ⟨h0, h, h2⟩
      · exact Or.inl ⟨h0, Or.inl h⟩
      · exact Or.inl ⟨h0, Or.inr (Or.inl ⟨c, h.symm⟩)⟩
      · exact Or.inr ⟨h0, h, fun y => h2 y.2.symm, fun y => by omega⟩
    · rcases h with ⟨h0, h | ⟨-, h⟩ | ⟨h, -⟩⟩ | ⟨h0, h, h2, -⟩
      · exact Or.inl ⟨h0, Or.inl h⟩
      · exact Or.inl ⟨h0, Or.inr h.symm⟩
      · omega
      · exact Or.inr ⟨h0, h, fun y => h2 ⟨c, y.symm⟩⟩
  · by_cases d : i = b.toInt.toNat
    · have e : fru f a b z i = fr1 (f i) a z := by unfold fru; rw [if_neg c, if_pos d]
      have q := fr1_t (z := z) hr ha
      rw [e]
      refine ⟨q.1, fun j => (q.2 j).trans ⟨fun h => ?_, fun h => ?_⟩⟩
      · rcases h with ⟨h0, h | h⟩ | ⟨h0, h, h2⟩
        · exact Or.inl ⟨h0, Or.inl h⟩
        · exact Or.inl ⟨h0, Or.inr (Or.inr ⟨d, h.symm⟩)⟩
        · exact Or.inr ⟨h0, h, fun y => c y.1, fun y => h2 y.2.symm⟩
      · rcases h with ⟨h0, h | ⟨h, -⟩ | ⟨-, h⟩⟩ | ⟨h0, h, -, h2⟩
        · exact Or.inl ⟨h0, Or.inl h⟩
        · exact absurd h c
        · exact Or.inl ⟨h0, Or.inr h.symm⟩
        · exact Or.inr ⟨h0, h, fun y => h2 ⟨d, y.symm⟩⟩
    · have e : fru f a b z i = f i := by unfold fru; rw [if_neg c, if_neg d]
      rw [e]
      refine ⟨hr, fun j => ⟨fun h => ?_, fun h => ?_⟩⟩
      · by_cases z0 : z.toInt = 0
        · exact Or.inr ⟨z0, h, fun y => c y.1, fun y => d y.1⟩
        · exact Or.inl ⟨z0, Or.inl h⟩
      · rcases h with ⟨-, h | ⟨h, -⟩ | ⟨h, -⟩⟩ | ⟨-, h, -⟩
        · exact h
        · exact absurd h c
        · exact absurd h d
        · exact h
theorem WFF_fru {n : Int} {f : Nat → Int32} {a b z : Int32} (w : WFF n f) (hn : n ≤ 10) (hf : FRDC n a.toInt b.toInt) : WFF n (fru f a b z) := by
  obtain ⟨⟨a1, a2⟩, ⟨b1, b2⟩, hab⟩ := hf
  intro i hi hin
  have r := w i hi hin
  have t := fru_t (z := z) r.1 (a := a) (b := b) (by omega) (by omega) hab
  refine ⟨t.1, fun j hj => ?_⟩
  have key : ∀ k : Nat, (k : Int) < n → ((fru f a b z k).toInt.toNat.testBit i = true ↔ (z.toInt ≠ 0 ∧ ((f k).toInt.toNat.testBit i = true ∨ (k = a.toInt.toNat ∧ i = b.toInt.toNat) ∨ (k = b.toInt.toNat ∧ i = a.toInt.toNat))) ∨ (z.toInt = 0 ∧ (f k).toInt.toNat.testBit i = true ∧ ¬ (k = a.toInt.toNat ∧ i = b.toInt.toNat) ∧ ¬ (k = b.toInt.toNat ∧ i = a.toInt.toNat))) :=
    fun k hk => (fru_t (z := z) (w k (by omega) hk).1 (a := a) (b := b) (by omega) (by omega) hab).2 i
  rcases (t.2 j).mp hj with ⟨h0, h | ⟨h, h2⟩ | ⟨h, h2⟩⟩ | ⟨h0, h, h2, h3⟩
  · have q := r.2 j h
    exact ⟨q.1, q.2.1, (key j q.1).mpr (Or.inl ⟨h0, Or.inl q.2.2⟩)⟩
  · have hjn : (j : Int) < n := by omega
    exact ⟨hjn, by omega, (key j hjn).mpr (Or.inl ⟨h0, Or.inr (Or.inr ⟨h2, h⟩)⟩)⟩
  · have hjn : (j : Int) < n := by omega
    exact ⟨hjn, by omega, (key j hjn).mpr (Or.inl ⟨h0, Or.inr (Or.inl ⟨h2, h⟩)⟩)⟩
  · have q := r.2 j h
    exact ⟨q.1, q.2.1, (key j q.1).mpr (Or.inr ⟨h0, q.2.2, fun y => h3 ⟨y.2, y.1⟩, fun y => h2 ⟨y.2, y.1⟩⟩)⟩
theorem WFF_eq {n : Int} {f g : Nat → Int32} (w : WFF n f) (h : ∀ j : Nat, (j : Int) < n → g j = f j) : WFF n g := by
  intro i hi hin
  have r := w i hi hin
  rw [h i hin]
  refine ⟨r.1, fun j hj => ?_⟩
  have q := r.2 j hj
  exact ⟨q.1, q.2.1, by rw [h j q.1]; exact q.2.2⟩
theorem WFF_0 {f : Nat → Int32} : WFF (0 : Int32).toInt f := fun i _ h => absurd h (by have k0 : (0 : Int32).toInt = 0 := (by decide +kernel); omega)
def BZ (n : Int) (b : Nat → Int32) : Prop := (∀ j : Nat, j < 10 → n ≤ (j : Int) → b j = 0) ∧ WFF n b
theorem BZ_more {n n' : Int} {b : Nat → Int32} (h : BZ n b) (hn : n ≤ n') : BZ n' b := by
  refine ⟨fun j hj hk => h.1 j hj (by omega), fun i hi hin => ?_⟩
  by_cases c : (i : Int) < n
  · have r := h.2 i hi c
    refine ⟨r.1, fun j hj => ?_⟩
    have q := r.2 j hj
    exact ⟨by omega, q.2⟩
  · rw [h.1 i hi (by omega)]
    refine ⟨by decide +kernel, fun j hj => ?_⟩
    rw [show (0 : Int32).toInt.toNat = 0 from by decide +kernel, Nat.zero_testBit] at hj
    cases hj
noncomputable def TBf (T : NB) (a b z : Int32) : NB := (T.1, (@ite _ (FRDC T.1.1.1.toInt a.toInt b.toInt) (Classical.propDecidable _) (fru T.2.1 a b z) T.2.1, T.2.2))
theorem BF_of {T : NB} {hc : Int} {a b z : Int32} {f g : Nat → Int32} {m : Int} (hh : hc = T.1.1.1.toInt) (h10 : hc ≤ 10) (hs : (FRDC hc a.toInt b.toInt ∧ g = fru f a b z) ∨ (¬ FRDC hc a.toInt b.toInt ∧ g = f)) (hf : ∀ j : Nat, (j : Int) < m → f j = T.2.1 j) (hz : BZ hc T.2.1) : (∀ j : Nat, (j : Int) < m → g j = (TBf T a b z).2.1 j) ∧ BZ hc (TBf T a b z).2.1 := by
  unfold TBf
  rw [← hh]
  rcases hs with ⟨q1, q2⟩ | ⟨q1, q2⟩
  · show (∀ j : Nat, (j : Int) < m → g j = (@ite _ (FRDC hc a.toInt b.toInt) (Classical.propDecidable _) (fru T.2.1 a b z) T.2.1) j) ∧ BZ hc (@ite _ (FRDC hc a.toInt b.toInt) (Classical.propDecidable _) (fru T.2.1 a b z) T.2.1)
    rw [if_pos q1, q2]
    refine ⟨fun j hj => ?_, ⟨fun j hj hk => ?_, WFF_fru hz.2 h10 q1⟩⟩
    · unfold fru
      rw [hf j hj]
    · unfold fru
      obtain ⟨⟨h1, h2⟩, ⟨h3, h4⟩, -⟩ := q1
      rw [if_neg (by omega), if_neg (by omega)]
      exact hz.1 j hj hk
  · show (∀ j : Nat, (j : Int) < m → g j = (@ite _ (FRDC hc a.toInt b.toInt) (Classical.propDecidable _) (fru T.2.1 a b z) T.2.1) j) ∧ BZ hc (@ite _ (FRDC hc a.toInt b.toInt) (Classical.propDecidable _) (fru T.2.1 a b z) T.2.1)
    rw [if_neg q1, q2]
    exact ⟨hf, hz⟩
noncomputable def TBh (T : NB) (w : Int32) (pe oi : Int) : NB := (TH T.1 w pe oi, T.2)
noncomputable def TBc (T : NB) (ni se : Int) : NB := (TC T.1 ni se, T.2)
def BI1 (m : BV) : BV := (m.1, some m.1)
def BI0 (m : BV) : BV := match m.2 with | none => m | some b => (b, m.2)
def BIM (m : BV) (z : Int) : BV := if z = 1 then BI1 m else BI0 m
theorem BIM_1 {m : BV} {z : Int} (h : z = 1) : BIM m z = BI1 m := if_pos h
theorem BIM_0 {m : BV} {z : Int} (h : z = 0) : BIM m z = BI0 m := if_neg (by omega)
