/-! p23: houses, places and clues on both sides -/
def FREE (n : Int) (pl : Nat → Int32) (w : Int) : Prop := 0 ≤ w ∧ w ≤ 63 ∧ ∀ j : Nat, (j : Int) < n → (pl j).toInt ≠ w
def HOK (n : Int) (pl : Nat → Int32) (w pe oi : Int) : Prop := (1 ≤ pe ∧ pe ≤ 20) ∧ (0 ≤ oi ∧ oi ≤ 999) ∧ n ≤ 9 ∧ FREE n pl w
def HST (n n' : Int) (pl pl' : Nat → Int32) (w : Int32) (pe oi : Int) : Prop := (HOK n pl w.toInt pe oi ∧ n' = n + 1 ∧ pl' n.toNat = w ∧ ∀ j : Nat, j ≠ n.toNat → pl' j = pl j) ∨ (¬ HOK n pl w.toInt pe oi ∧ n' = n ∧ pl' = pl)
def COK (p night set c : Int) : Prop := (0 ≤ night ∧ night ≤ 9) ∧ 1 ≤ set ∧ set < p ∧ c ≤ 7
def CST (p night set c c' r : Int) : Prop := (night = -1 ∧ r = 0 ∧ c' = 0) ∨ (night ≠ -1 ∧ COK p night set c ∧ r = c + 1 ∧ c' = c + 1) ∨ (night ≠ -1 ∧ ¬ COK p night set c ∧ r = -1 ∧ c' = c)
def sh1 (n : Int32) : Int := ((1 : Int32) <<< (n &&& 31)).toInt
def EQ10 (g f : Nat → Int32) : Prop := ∀ j : Nat, j < 10 → g j = f j
theorem free_step {pl : Nat → Int32} {w : Int} {i v : Int32} {n m : Int} (h : ∀ j : Nat, (j : Int) < n → (pl j).toInt ≠ w) (e : v = pl i.toNatClampNeg) (h0 : 0 ≤ i.toInt) (hi : i.toInt = n) (hv : v.toInt ≠ w) (hm : m = n + 1) : ∀ j : Nat, (j : Int) < m → (pl j).toInt ≠ w := fun j hj => by
  have q := idxI h0
  by_cases hc : (j : Int) < n
  · exact h j hc
  · rw [show j = i.toNatClampNeg from by omega, ← e]
    exact hv
theorem free_hit {pl : Nat → Int32} {w : Int} {i v : Int32} {n : Int} (h : FREE n pl w) (e : v = pl i.toNatClampNeg) (h0 : 0 ≤ i.toInt) (hi : i.toInt < n) (hv : v.toInt = w) : False := by
  have q := idxI h0
  exact h.2.2 i.toNatClampNeg (by omega) (by rw [← e]; exact hv)
theorem msk_all : (List.range 11).all (fun j => (List.range 32).all (fun i => decide (((((1 : Int32) <<< (nI j &&& 31)) - 1) ^^^ (-1)).toBitVec.getLsbD i = decide (j ≤ i)))) = true := by decide +kernel
theorem shp_all : (List.range 11).all (fun j => decide (((1 : Int32) <<< (nI j &&& 31)).toInt = ((2 ^ j : Nat) : Int))) = true := by decide +kernel
theorem and_all {n st a x w : Int32} (hn : 0 ≤ n.toInt ∧ n.toInt ≤ 10) (ha : a.toInt = sh1 n - 1) (hx : x = a ^^^ (-1)) (hw : w = st &&& x) : w.toInt = 0 ↔ (0 ≤ st.toInt ∧ st.toInt < sh1 n) := by
  obtain ⟨j, hj, rfl, -⟩ := n10 (b := 10) hn (by decide)
  have hs : sh1 (nI j) = ((2 ^ j : Nat) : Int) := of_decide_eq_true (List.all_eq_true.mp shp_all j (List.mem_range.mpr (by omega)))
  have hp : (2 ^ j : Nat) ≤ 2 ^ 10 := Nat.pow_le_pow_right (by decide) hj
  have hm : ∀ i : Nat, i < 32 → ((((1 : Int32) <<< (nI j &&& 31)) - 1) ^^^ (-1)).toBitVec.getLsbD i = decide (j ≤ i) := fun i hi => of_decide_eq_true (List.all_eq_true.mp (List.all_eq_true.mp msk_all j (List.mem_range.mpr (by omega))) i (List.mem_range.mpr hi))
  have hsb : 1 ≤ sh1 (nI j) ∧ sh1 (nI j) ≤ 1024 := shl10 hn
  have ea : a = ((1 : Int32) <<< (nI j &&& 31)) - 1 := Int32.toInt_inj.mp (by
    rw [ha]
    have k := subE (x := (1 : Int32) <<< (nI j &&& 31)) (y := 1) (a := sh1 (nI j)) (b := 1) rfl (by decide +kernel) (by omega)
    rw [k])
  rw [← ea, ← hx] at hm
  have hb : w.toInt = 0 ↔ st.toBitVec.toNat < 2 ^ j := by
    constructor
    · intro h
      have h0 : w.toBitVec = 0#32 := by
        have : w = 0 := Int32.toInt_inj.mp (by rw [h]; decide +kernel)
        rw [this]; rfl
      apply Nat.lt_pow_two_of_testBit
      intro i hi
      by_cases hc : i < 32
      · have q : w.toBitVec.getLsbD i = (st.toBitVec.getLsbD i && x.toBitVec.getLsbD i) := by rw [hw, Int32.toBitVec_and, BitVec.getLsbD_and]
        have hd : decide (j ≤ i) = true := decide_eq_true hi
        rw [h0, hm i hc, hd, Bool.and_true] at q
        have q2 : st.toBitVec.getLsbD i = false := by rw [← q]; exact BitVec.getLsbD_zero
        exact q2
      · exact Nat.testBit_lt_two_pow (Nat.lt_of_lt_of_le st.toBitVec.isLt (Nat.pow_le_pow_right (by decide) (by omega)))
    · intro h
      have h0 : w.toBitVec = 0#32 := by
        apply BitVec.eq_of_getLsbD_eq
        intro i hi
        rw [hw, Int32.toBitVec_and, BitVec.getLsbD_and, hm i hi, BitVec.getLsbD_zero]
        by_cases hc : j ≤ i
        · have q : st.toBitVec.getLsbD i = false := Nat.testBit_lt_two_pow (Nat.lt_of_lt_of_le h (Nat.pow_le_pow_right (by decide) hc))
          rw [q]; rfl
        · rw [decide_eq_false hc, Bool.and_false]
      have : w = 0 := Int32.toBitVec_inj.mp (by rw [h0]; rfl)
      rw [this]; decide +kernel
  rw [hb, hs]
  have hl : st.toBitVec.toNat < 2 ^ 32 := st.toBitVec.isLt
  have ht : st.toInt = if 2 * st.toBitVec.toNat < 2 ^ 32 then (st.toBitVec.toNat : Int) else (st.toBitVec.toNat : Int) - ((2 ^ 32 : Nat) : Int) := BitVec.toInt_eq_toNat_cond st.toBitVec
  constructor
  · intro h
    rw [if_pos (by omega)] at ht
    omega
  · intro h
    by_cases hc : 2 * st.toBitVec.toNat < 2 ^ 32
    · rw [if_pos hc] at ht; omega
    · rw [if_neg hc] at ht; omega
theorem all_sh {c v : Int32} (hv : v = (1 : Int32) <<< (c &&& 31)) : v.toInt = sh1 c := by rw [hv]; rfl
abbrev KV := Int32 × (Nat → Int32) × Int32
abbrev KT := KV × Option KV
def KH (t : KV) (n : Int32) (g : Nat → Int32) (c : Int32) : Prop := n = t.1 ∧ c = t.2.2 ∧ ∀ j : Nat, (j : Int) < t.1.toInt → g j = t.2.1 j
theorem KH_eq {t : KV} {n n' c c' : Int32} {g g' : Nat → Int32} (h : KH t n g c) (e1 : n' = n) (e2 : g' = g) (e3 : c' = c) : KH t n' g' c' := by subst e1 e2 e3; exact h
theorem KH_cp {t : KV} {n n' c c' : Int32} {g g' : Nat → Int32} (h : KH t n g c) (hn : n.toInt ≤ 10) (e1 : n'.toInt = n.toInt) (e2 : EQ10 g' g) (e3 : c'.toInt = c.toInt) : KH t n' g' c' := by
  obtain rfl := Int32.toInt_inj.mp e1
  obtain rfl := Int32.toInt_inj.mp e3
  obtain ⟨rfl, rfl, h3⟩ := h
  exact ⟨rfl, rfl, fun j hj => (e2 j (by omega)).trans (h3 j hj)⟩
noncomputable def TH (T : KT) (w : Int32) (pe oi : Int) : KT := @ite _ (HOK T.1.1.toInt T.1.2.1 w.toInt pe oi) (Classical.propDecidable _) ((T.1.1 + 1, fun j => if j = T.1.1.toInt.toNat then w else T.1.2.1 j, T.1.2.2), T.2) T
noncomputable def TC (T : KT) (ni se : Int) : KT := if ni = -1 then ((T.1.1, T.1.2.1, 0), T.2) else @ite _ (COK (sh1 T.1.1) ni se T.1.2.2.toInt) (Classical.propDecidable _) ((T.1.1, T.1.2.1, T.1.2.2 + 1), T.2) T
noncomputable def CA (T : KT) (ni se : Int) : Int := if ni = -1 then 0 else @ite _ (COK (sh1 T.1.1) ni se T.1.2.2.toInt) (Classical.propDecidable _) (T.1.2.2.toInt + 1) (-1)
def TI1 (T : KT) : KT := (T.1, some T.1)
def TI0 (T : KT) : KT := match T.2 with | none => T | some t => (t, T.2)
theorem HOK_eq {n : Int} {pl g : Nat → Int32} {w pe oi : Int} (h : ∀ j : Nat, (j : Int) < n → g j = pl j) : HOK n g w pe oi ↔ HOK n pl w pe oi := by
  have k : FREE n g w ↔ FREE n pl w := ⟨fun q => ⟨q.1, q.2.1, fun j hj => by rw [← h j hj]; exact q.2.2 j hj⟩, fun q => ⟨q.1, q.2.1, fun j hj => by rw [h j hj]; exact q.2.2 j hj⟩⟩
  exact ⟨fun q => ⟨q.1, q.2.1, q.2.2.1, k.mp q.2.2.2⟩, fun q => ⟨q.1, q.2.1, q.2.2.1, k.mpr q.2.2.2⟩⟩
theorem KH_house {T : KT} {n n' c c' : Int32} {g g' : Nat → Int32} {w : Int32} {pe oi : Int} (h : KH T.1 n g c) (hs : HST n.toInt n'.toInt g g' w pe oi) (h0 : 0 ≤ n.toInt) (hc : c' = c) : KH (TH T w pe oi).1 n' g' c' ∧ (TH T w pe oi).2 = T.2 := by
  obtain ⟨h1, h2, h3⟩ := h
  subst hc
  rw [h1] at hs h0
  unfold TH
  rcases hs with ⟨q1, q2, q3, q4⟩ | ⟨q1, q2, q3⟩
  · have q1 := (HOK_eq h3).mp q1
    rw [if_pos q1]
    refine ⟨⟨Int32.toInt_inj.mp ?_, h2, fun j hj => ?_⟩, rfl⟩
    · rw [q2]; exact (addE (x := T.1.1) (y := 1) (a := T.1.1.toInt) (b := 1) rfl (by decide +kernel) (by have := q1.2.2.1; omega)).symm
    · show g' j = if j = T.1.1.toInt.toNat then w else T.1.2.1 j
      have hj : (j : Int) < (T.1.1 + 1).toInt := hj
      rw [addE (x := T.1.1) (y := 1) (a := T.1.1.toInt) (b := 1) rfl (by decide +kernel) (by have := q1.2.2.1; omega)] at hj
      by_cases hc : j = T.1.1.toInt.toNat
      · rw [if_pos hc, hc]; exact q3
      · rw [if_neg hc, q4 j hc]; exact h3 j (by omega)
  · have q1 : ¬ HOK T.1.1.toInt T.1.2.1 w.toInt pe oi := fun z => q1 ((HOK_eq h3).mpr z)
    rw [if_neg q1]
    subst q3
    exact ⟨⟨Int32.toInt_inj.mp q2, h2, h3⟩, rfl⟩
theorem KH_clue {T : KT} {n c c' n' : Int32} {g g' : Nat → Int32} {r ni se : Int} (h : KH T.1 n g c) (hs : CST (sh1 n) ni se c.toInt c'.toInt r) (h0 : 0 ≤ c.toInt) (hn : n' = n) (hg : g' = g) : r = CA T ni se ∧ KH (TC T ni se).1 n' g' c' ∧ (TC T ni se).2 = T.2 := by
  obtain ⟨h1, h2, h3⟩ := h
  subst hn hg
  rw [h1, h2] at hs
  rw [h2] at h0
  unfold TC CA
  rcases hs with ⟨q1, q2, q3⟩ | ⟨q1, q2, q3, q4⟩ | ⟨q1, q2, q3, q4⟩
  · rw [if_pos q1, if_pos q1]
    exact ⟨q2, ⟨h1, Int32.toInt_inj.mp (by rw [q3]; exact (show (0 : Int) = (0 : Int32).toInt from by decide +kernel)), h3⟩, rfl⟩
  · rw [if_neg q1, if_neg q1, if_pos q2, if_pos q2]
    exact ⟨q3, ⟨h1, Int32.toInt_inj.mp (by rw [q4]; exact (addE (x := T.1.2.2) (y := 1) (a := T.1.2.2.toInt) (b := 1) rfl (by decide +kernel) (by have := q2.2.2.2; omega)).symm), h3⟩, rfl⟩
  · rw [if_neg q1, if_neg q1, if_neg q2, if_neg q2]
    exact ⟨q3, ⟨h1, Int32.toInt_inj.mp q4, h3⟩, rfl⟩
/-! p19: bids on both sides, and who has the highest -/
def hgS (b : Nat → Int32) (w p : Int) (k : Nat) : Int := if (k : Int) ≠ w ∧ (if p = -1 then (0 : Int) else (b p.toNat).toInt) < (b k).toInt then (k : Int) else p
def hgN (b : Nat → Int32) (w : Int) : Nat → Int
  | 0 => -1
  | k + 1 => hgS b w (hgN b w k) k
theorem hgN_b {b : Nat → Int32} {w : Int} (k : Nat) : -1 ≤ hgN b w k ∧ hgN b w k < (k : Int) ∧ (hgN b w k ≠ -1 → 0 < (b (hgN b w k).toNat).toInt) := by
  induction k with
  | zero => exact ⟨(show (-1 : Int) ≤ -1 from by omega), (show (-1 : Int) < ((0 : Nat) : Int) from by omega), fun h => absurd rfl h⟩
  | succ k ih =>
    obtain ⟨h1, h2, h3⟩ := ih
    show -1 ≤ hgS b w (hgN b w k) k ∧ hgS b w (hgN b w k) k < ((k + 1 : Nat) : Int) ∧ (hgS b w (hgN b w k) k ≠ -1 → 0 < (b (hgS b w (hgN b w k) k).toNat).toInt)
    generalize hgN b w k = p at h1 h2 h3 ⊢
    unfold hgS
    by_cases hc : (k : Int) ≠ w ∧ (if p = -1 then (0 : Int) else (b p.toNat).toInt) < (b k).toInt
    · rw [if_pos hc]
      refine ⟨by omega, by omega, fun _ => ?_⟩
      show 0 < (b k).toInt
      by_cases hp : p = -1
      · have q := hc.2
        rw [if_pos hp] at q
        exact q
      · have q := hc.2
        rw [if_neg hp] at q
        have q2 := h3 hp
        omega
    · rw [if_neg hc]
      exact ⟨h1, by omega, h3⟩
theorem hgN_i {b : Nat → Int32} {w p n : Int} (hp : p = -1) (hn : n = 0) : p = hgN b w n.toNat := by
  subst hp hn
  rfl
theorem hgN_c {b : Nat → Int32} {w p p' n m x y : Int} (h : p = hgN b w n.toNat) (hx : (if p = -1 then (0 : Int) else (b p.toNat).toInt) = x) (hy : (b n.toNat).toInt = y) (h0 : 0 ≤ n) (hm : m = n + 1) (hc : ((n ≠ w ∧ x < y) ∧ p' = n) ∨ (¬ (n ≠ w ∧ x < y) ∧ p' = p)) : p' = hgN b w m.toNat := by
  have hk : m.toNat = n.toNat + 1 := by omega
  have hz : ((n.toNat : Nat) : Int) = n := by omega
  rw [hk]
  show p' = hgS b w (hgN b w n.toNat) n.toNat
  rw [← h]
  unfold hgS
  rw [hx, hy, hz]
  rcases hc with ⟨c, e⟩ | ⟨c, e⟩
  · rw [if_pos c]; exact e
  · rw [if_neg c]; exact e
theorem hgN_v {b : Nat → Int32} {i v : Int32} {n : Int} (ev : v = b i.toNatClampNeg) (hi : i.toInt = n) (h0 : 0 ≤ n) : (b n.toNat).toInt = v.toInt := by
  have q := idxI (x := i) (by omega)
  rw [show n.toNat = i.toNatClampNeg from by omega, ← ev]
theorem hgN_n {b : Nat → Int32} {w p p' n m : Int} {i v : Int32} (h : p = hgN b w n.toNat) (hp : p = -1) (ev : v = b i.toNatClampNeg) (hi : i.toInt = n) (h0 : 0 ≤ n) (hm : m = n + 1) (hc : ((n ≠ w ∧ 0 < v.toInt) ∧ p' = n) ∨ (¬ (n ≠ w ∧ 0 < v.toInt) ∧ p' = p)) : p' = hgN b w m.toNat :=
  hgN_c h (if_pos hp) (hgN_v ev hi h0) h0 hm hc
theorem hgN_s {b : Nat → Int32} {w p p' n m : Int} {i v j x : Int32} (h : p = hgN b w n.toNat) (hp : 0 ≤ p) (ev : v = b i.toNatClampNeg) (hi : i.toInt = n) (h0 : 0 ≤ n) (ej : x = b j.toNatClampNeg) (hj : j.toInt = p) (hm : m = n + 1) (hc : ((n ≠ w ∧ x.toInt < v.toInt) ∧ p' = n) ∨ (¬ (n ≠ w ∧ x.toInt < v.toInt) ∧ p' = p)) : p' = hgN b w m.toNat :=
  hgN_c h ((if_neg (by omega)).trans (hgN_v ej hj hp)) (hgN_v ev hi h0) h0 hm hc
theorem hgN_k {b : Nat → Int32} {w p n m : Int} (h : p = hgN b w n.toNat) (hw : n = w) (h0 : 0 ≤ n) (hm : m = n + 1) : p = hgN b w m.toNat :=
  hgN_c h rfl rfl h0 hm (Or.inr ⟨fun z => z.1 hw, rfl⟩)
theorem hgN_z {b : Nat → Int32} {w p n m : Int} {i v : Int32} (h : p = hgN b w n.toNat) (ev : v = b i.toNatClampNeg) (hi : i.toInt = n) (h0 : 0 ≤ n) (hv : v.toInt ≤ 0) (hm : m = n + 1) : p = hgN b w m.toNat := by
  refine hgN_c h rfl (hgN_v ev hi h0) h0 hm (Or.inr ⟨fun z => ?_, rfl⟩)
  have z2 := z.2
  by_cases hp : p = -1
  · rw [if_pos hp] at z2; omega
  · rw [if_neg hp] at z2
    have q := (hgN_b (b := b) (w := w) n.toNat).2.2
    rw [← h] at q
    have q2 := q hp
    omega
theorem hgN_eq {b c : Nat → Int32} {w : Int} (k : Nat) (h : ∀ j : Nat, j < k → b j = c j) : hgN b w k = hgN c w k := by
  induction k with
  | zero => rfl
  | succ k ih =>
    have e := ih (fun j hj => h j (by omega))
    show hgS b w (hgN b w k) k = hgS c w (hgN c w k) k
    rw [e]
    have q := hgN_b (b := c) (w := w) k
    generalize hgN c w k = p at q ⊢
    unfold hgS
    rw [h k (by omega)]
    by_cases hp : p = -1
    · rw [if_pos hp, if_pos hp]
    · rw [if_neg hp, if_neg hp, h p.toNat (by omega)]
def SLA (b : Nat → Int32) (n what : Int) : Int := if what = 0 then hgN b (-1) n.toNat else if what = 1 then (if hgN b (-1) n.toNat = -1 then -1 else if hgN b (hgN b (-1) n.toNat) n.toNat = -1 then 0 else (b (hgN b (hgN b (-1) n.toNat) n.toNat).toNat).toInt) else -1
theorem SLA_eq {b c : Nat → Int32} {n what : Int} (h : ∀ j : Nat, (j : Int) < n → b j = c j) : SLA b n what = SLA c n what := by
  unfold SLA
  rw [hgN_eq (b := b) (c := c) n.toNat (fun j hj => h j (by omega))]
  generalize hgN c (-1) n.toNat = p
  rw [hgN_eq (b := b) (c := c) (w := p) n.toNat (fun j hj => h j (by omega))]
  have q := hgN_b (b := c) (w := p) n.toNat
  generalize hgN c p n.toNat = s at q ⊢
  by_cases hs : s = -1
  · rw [if_pos hs, if_pos hs]
  · rw [if_neg hs, if_neg hs, h s.toNat (by omega)]
theorem SLA_o {b : Nat → Int32} {n what r : Int} (h0 : what ≠ 0) (h1 : what ≠ 1) (hr : r = -1) : r = SLA b n what := by
  unfold SLA
  rw [if_neg h0, if_neg h1]
  exact hr
theorem SLA_w {b : Nat → Int32} {n what w : Int} (hw : w = hgN b (-1) n.toNat) (h : what = 0 ∨ (what = 1 ∧ w = -1)) : w = SLA b n what := by
  unfold SLA
  rw [← hw]
  rcases h with h | ⟨h, h2⟩
  · rw [if_pos h]
  · rw [if_neg (by omega), if_pos h, if_pos h2]
    exact h2
theorem SLA_m {b : Nat → Int32} {n what w r : Int} (hw : w = hgN b (-1) n.toNat) (h2 : w = -1) (h : what ≠ 0) (hr : r = -1) : r = SLA b n what := by
  unfold SLA
  rw [← hw, if_neg h, if_pos h2]
  by_cases h1 : what = 1
  · rw [if_pos h1]; exact hr
  · rw [if_neg h1]; exact hr
theorem SLA_z {b : Nat → Int32} {n what w s r : Int} (hw : w = hgN b (-1) n.toNat) (hs : s = hgN b w n.toNat) (h1 : what = 1) (h2 : w ≠ -1) (h3 : s = -1) (hr : r = 0) : r = SLA b n what := by
  unfold SLA
  rw [← hw, ← hs, if_neg (by omega), if_pos h1, if_neg h2, if_pos h3]
  exact hr
theorem SLA_b {b : Nat → Int32} {n what w s : Int} {i v : Int32} (hw : w = hgN b (-1) n.toNat) (hs : s = hgN b w n.toNat) (h1 : what = 1) (h2 : w ≠ -1) (h3 : 0 ≤ s) (ev : v = b i.toNatClampNeg) (hi : i.toInt = s) : v.toInt = SLA b n what := by
  unfold SLA
  rw [← hw, ← hs, if_neg (by omega), if_pos h1, if_neg h2, if_neg (by omega), hgN_v ev hi h3]
def BSC (h what who v : Int) : Prop := what = 9 ∧ (0 ≤ who ∧ who < h) ∧ 0 ≤ v ∧ v ≤ 99
abbrev BV := (Nat → Int32) × Option (Nat → Int32)
abbrev NB := KT × BV
def BZ (n : Int) (b : Nat → Int32) : Prop := ∀ j : Nat, j < 10 → n ≤ (j : Int) → b j = 0
noncomputable def TBh (T : NB) (w : Int32) (pe oi : Int) : NB := (TH T.1 w pe oi, T.2)
noncomputable def TBs (T : NB) (what who : Int) (v : Int32) : NB := (T.1, (@ite _ (BSC T.1.1.1.toInt what who v.toInt) (Classical.propDecidable _) (fun j => if j = who.toNat then v else T.2.1 j) T.2.1, T.2.2))
noncomputable def TBc (T : NB) (ni se : Int) : NB := (TC T.1 ni se, T.2)
def BI1 (m : BV) : BV := (m.1, some m.1)
def BI0 (m : BV) : BV := match m.2 with | none => m | some b => (b, m.2)
def BIM (m : BV) (z : Int) : BV := if z = 1 then BI1 m else BI0 m
theorem BIM_1 {m : BV} {z : Int} (h : z = 1) : BIM m z = BI1 m := if_pos h
theorem BIM_0 {m : BV} {z : Int} (h : z = 0) : BIM m z = BI0 m := if_neg (by omega)
theorem BZ_more {n n' : Int} {b : Nat → Int32} (h : BZ n b) (hn : n ≤ n') : BZ n' b := fun j hj hk => h j hj (by omega)
theorem BS_of {T : NB} {hc what who : Int} {v : Int32} {f g : Nat → Int32} {m : Int} (hh : hc = T.1.1.1.toInt) (hs : (BSC hc what who v.toInt ∧ BUP f g who v) ∨ (¬ BSC hc what who v.toInt ∧ g = f)) (hf : ∀ j : Nat, (j : Int) < m → f j = T.2.1 j) (hz : BZ hc T.2.1) : (∀ j : Nat, (j : Int) < m → g j = (TBs T what who v).2.1 j) ∧ BZ hc (TBs T what who v).2.1 := by
  unfold TBs
  rw [← hh]
  rcases hs with ⟨q1, q2, q3⟩ | ⟨q1, q2⟩
  · show (∀ j : Nat, (j : Int) < m → g j = (@ite _ (BSC hc what who v.toInt) (Classical.propDecidable _) (fun j => if j = who.toNat then v else T.2.1 j) T.2.1) j) ∧ BZ hc (@ite _ (BSC hc what who v.toInt) (Classical.propDecidable _) (fun j => if j = who.toNat then v else T.2.1 j) T.2.1)
    rw [if_pos q1]
    refine ⟨fun j hj => ?_, fun j hj hk => ?_⟩
    · show g j = if j = who.toNat then v else T.2.1 j
      by_cases c : j = who.toNat
      · rw [if_pos c, c]; exact q2
      · rw [if_neg c, q3 j c]; exact hf j hj
    · show (if j = who.toNat then v else T.2.1 j) = 0
      obtain ⟨-, ⟨h1, h2⟩, -⟩ := q1
      rw [if_neg (by omega)]
      exact hz j hj hk
  · show (∀ j : Nat, (j : Int) < m → g j = (@ite _ (BSC hc what who v.toInt) (Classical.propDecidable _) (fun j => if j = who.toNat then v else T.2.1 j) T.2.1) j) ∧ BZ hc (@ite _ (BSC hc what who v.toInt) (Classical.propDecidable _) (fun j => if j = who.toNat then v else T.2.1 j) T.2.1)
    rw [if_neg q1, q2]
    exact ⟨hf, hz⟩
def SETC (h what who v : Int) : Prop := (what = 0 ∧ 0 ≤ v ∧ v ≤ 9) ∨ (what = 1 ∧ 0 ≤ v ∧ v ≤ 1000) ∨ (what = 2 ∧ 0 ≤ v ∧ v ≤ 99) ∨ ((what = 3 ∨ what = 4) ∧ 1 ≤ v ∧ v ≤ 99) ∨ (what = 5 ∧ 0 ≤ v ∧ v < h) ∨ ((0 ≤ who ∧ who < h) ∧ ((what = 6 ∧ 1 ≤ v ∧ v ≤ 20) ∨ (what = 7 ∧ 0 ≤ v ∧ v ≤ 999) ∨ ((what = 8 ∨ what = 9) ∧ 0 ≤ v ∧ v ≤ 99) ∨ (what = 10 ∧ 0 ≤ v ∧ v ≤ 9999)))
theorem set_tab {w lo hi : Int32} (h0 : 0 ≤ w.toInt ∧ w.toInt ≤ 10) (e1 : f_least w.toNatClampNeg = .int lo) (e2 : f_most w.toNatClampNeg = .int hi) : (w.toInt = 0 ∧ lo.toInt = 0 ∧ hi.toInt = 9) ∨ (w.toInt = 1 ∧ lo.toInt = 0 ∧ hi.toInt = 1000) ∨ (w.toInt = 2 ∧ lo.toInt = 0 ∧ hi.toInt = 99) ∨ (w.toInt = 3 ∧ lo.toInt = 1 ∧ hi.toInt = 99) ∨ (w.toInt = 4 ∧ lo.toInt = 1 ∧ hi.toInt = 99) ∨ (w.toInt = 5 ∧ lo.toInt = 0 ∧ hi.toInt = 9) ∨ (w.toInt = 6 ∧ lo.toInt = 1 ∧ hi.toInt = 20) ∨ (w.toInt = 7 ∧ lo.toInt = 0 ∧ hi.toInt = 999) ∨ (w.toInt = 8 ∧ lo.toInt = 0 ∧ hi.toInt = 99) ∨ (w.toInt = 9 ∧ lo.toInt = 0 ∧ hi.toInt = 99) ∨ (w.toInt = 10 ∧ lo.toInt = 0 ∧ hi.toInt = 9999) := by
  have q := idxI h0.1
  have z : w.toNatClampNeg = 0 ∨ w.toNatClampNeg = 1 ∨ w.toNatClampNeg = 2 ∨ w.toNatClampNeg = 3 ∨ w.toNatClampNeg = 4 ∨ w.toNatClampNeg = 5 ∨ w.toNatClampNeg = 6 ∨ w.toNatClampNeg = 7 ∨ w.toNatClampNeg = 8 ∨ w.toNatClampNeg = 9 ∨ w.toNatClampNeg = 10 := by omega
  have k : ∀ (j : Nat) (a b : Int), w.toNatClampNeg = j → (f_least j = .int lo → lo.toInt = a) → (f_most j = .int hi → hi.toInt = b) → w.toInt = (j : Int) ∧ lo.toInt = a ∧ hi.toInt = b := fun j a b hj ha hb => ⟨by omega, ha (hj ▸ e1), hb (hj ▸ e2)⟩
  rcases z with z | z | z | z | z | z | z | z | z | z | z
  · exact Or.inl (k 0 0 9 z (fun y => by injection y with y; rw [← y]; decide +kernel) (fun y => by injection y with y; rw [← y]; decide +kernel))
  · exact Or.inr (Or.inl (k 1 0 1000 z (fun y => by injection y with y; rw [← y]; decide +kernel) (fun y => by injection y with y; rw [← y]; decide +kernel)))
  · exact Or.inr (Or.inr (Or.inl (k 2 0 99 z (fun y => by injection y with y; rw [← y]; decide +kernel) (fun y => by injection y with y; rw [← y]; decide +kernel))))
  · exact Or.inr (Or.inr (Or.inr (Or.inl (k 3 1 99 z (fun y => by injection y with y; rw [← y]; decide +kernel) (fun y => by injection y with y; rw [← y]; decide +kernel)))))
  · exact Or.inr (Or.inr (Or.inr (Or.inr (Or.inl (k 4 1 99 z (fun y => by injection y with y; rw [← y]; decide +kernel) (fun y => by injection y with y; rw [← y]; decide +kernel))))))
  · exact Or.inr (Or.inr (Or.inr (Or.inr (Or.inr (Or.inl (k 5 0 9 z (fun y => by injection y with y; rw [← y]; decide +kernel) (fun y => by injection y with y; rw [← y]; decide +kernel)))))))
  · exact Or.inr (Or.inr (Or.inr (Or.inr (Or.inr (Or.inr (Or.inl (k 6 1 20 z (fun y => by injection y with y; rw [← y]; decide +kernel) (fun y => by injection y with y; rw [← y]; decide +kernel))))))))
  · exact Or.inr (Or.inr (Or.inr (Or.inr (Or.inr (Or.inr (Or.inr (Or.inl (k 7 0 999 z (fun y => by injection y with y; rw [← y]; decide +kernel) (fun y => by injection y with y; rw [← y]; decide +kernel)))))))))
  · exact Or.inr (Or.inr (Or.inr (Or.inr (Or.inr (Or.inr (Or.inr (Or.inr (Or.inl (k 8 0 99 z (fun y => by injection y with y; rw [← y]; decide +kernel) (fun y => by injection y with y; rw [← y]; decide +kernel))))))))))
  · exact Or.inr (Or.inr (Or.inr (Or.inr (Or.inr (Or.inr (Or.inr (Or.inr (Or.inr (Or.inl (k 9 0 99 z (fun y => by injection y with y; rw [← y]; decide +kernel) (fun y => by injection y with y; rw [← y]; decide +kernel)))))))))))
  · exact Or.inr (Or.inr (Or.inr (Or.inr (Or.inr (Or.inr (Or.inr (Or.inr (Or.inr (Or.inr (k 10 0 9999 z (fun y => by injection y with y; rw [← y]; decide +kernel) (fun y => by injection y with y; rw [← y]; decide +kernel)))))))))))
theorem HST_le {n n' : Int} {pl pl' : Nat → Int32} {w : Int32} {pe oi : Int} (h : HST n n' pl pl' w pe oi) : n ≤ n' := by
  rcases h with ⟨-, h, -⟩ | ⟨-, h, -⟩ <;> omega
