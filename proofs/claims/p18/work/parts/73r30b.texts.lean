/-! THE WORDS, as they are made -/
def wdL : List Int32 := [32, 116, 117, 114, 110, 32, 98, 117, 114, 110, 32, 119, 104, 101, 110, 32, 111, 114, 32, 97, 110, 100, 32, 110, 111, 116, 32, 104, 111, 117, 115, 101, 32, 111, 119, 101, 100, 32, 119, 97, 105, 116, 101, 100, 32, 115, 110, 111, 119, 32, 111, 105, 108, 32, 115, 101, 97, 115, 111, 110, 32, 112, 101, 111, 112, 108, 101, 32, 110, 101, 101, 100, 115, 32, 102, 97, 114, 32, 98, 105, 100, 32, 112, 97, 116, 104, 32, 116, 111, 32, 105, 110, 32, 117, 110, 116, 105, 108, 32, 110, 101, 101, 100, 32, 98, 105, 114, 116, 104, 32, 114, 101, 97, 100, 32, 109, 101, 110, 100, 32, 98, 114, 105, 100, 101, 32, 97, 116, 32, 102, 114, 111, 109, 32, 119, 111, 114, 116, 104, 32, 103, 111, 32, 115, 116, 97, 121, 32, 97, 103, 97, 105, 110, 32]
def w0 (k : Nat) : Int32 := wdL.getD k 0
def spc : Nat → Nat
  | 0 => 0
  | k + 1 => spc k + (if w0 k = 32 then 1 else 0)
theorem spc_sp {k : Nat} (h : w0 k = 32) : spc (k + 1) = spc k + 1 := by
  show spc k + (if w0 k = 32 then 1 else 0) = _
  rw [if_pos h]
theorem spc_no {k : Nat} (h : ¬ w0 k = 32) : spc (k + 1) = spc k := by
  show spc k + (if w0 k = 32 then 1 else 0) = _
  rw [if_neg h]; rfl
theorem wd30a : (List.range 154).all (fun k => decide (spc k = 30 → w0 k = 32 → k = 147)) = true := by decide +kernel
theorem wd30b : ¬ w0 148 = 32 ∧ ¬ w0 149 = 32 ∧ ¬ w0 150 = 32 := by decide +kernel
theorem wd_30 {f : Nat → Int32} (hf : ∀ j : Nat, j < 154 → f j = w0 j) {k idx v : Int32} {n i : Int} (hk : 0 ≤ k.toInt ∧ k.toInt < 153) (h1 : n = (spc k.toNatClampNeg : Int)) (h2 : w0 k.toNatClampNeg = 32) (hv : v = f idx.toNatClampNeg) (h32 : v.toInt = 32) (hi : idx.toInt = k.toInt + 1 + i) (h0 : 0 ≤ i) (h3 : idx.toInt < 154) : n = 30 → 3 ≤ i := by
  intro hn
  have e1 := idxI hk.1
  have e2 := idxI (x := idx) (by omega)
  have q := of_decide_eq_true (List.all_eq_true.mp wd30a k.toNatClampNeg (List.mem_range.mpr (by omega))) (by omega) h2
  have w : w0 idx.toNatClampNeg = 32 := by
    rw [← hf _ (by omega), ← hv]
    exact Int32.toInt_inj.mp (by rw [h32]; decide +kernel)
  by_cases c0 : i = 0
  · rw [show idx.toNatClampNeg = 148 from by omega] at w; exact absurd w wd30b.1
  · by_cases c1 : i = 1
    · rw [show idx.toNatClampNeg = 149 from by omega] at w; exact absurd w wd30b.2.1
    · by_cases c2 : i = 2
      · rw [show idx.toNatClampNeg = 150 from by omega] at w; exact absurd w wd30b.2.2
      · omega
theorem wd_is {f : Nat → Int32} (hf : ∀ j : Nat, j < 154 → f j = w0 j) {i v : Int32} (hv : v = f i.toNatClampNeg) (hi : 0 ≤ i.toInt ∧ i.toInt < 154) : (v.toInt = 32 → w0 i.toNatClampNeg = 32) ∧ (¬ v.toInt = 32 → ¬ w0 i.toNatClampNeg = 32) := by
  have e := idxI hi.1
  rw [← hf _ (by omega), ← hv]
  refine ⟨fun h => Int32.toInt_inj.mp (by rw [h]; decide +kernel), fun h q => h (by rw [q]; decide +kernel)⟩
theorem sp_next {k k1 : Int32} {n m : Int} (h1 : n + 1 = (spc k.toNatClampNeg : Int)) (h2 : w0 k.toNatClampNeg = 32) (h0 : 0 ≤ k.toInt) (hk : k1.toInt = k.toInt + 1) (hm : m = n + 1) : m + 1 = (spc k1.toNatClampNeg : Int) := by
  have e1 := idxI h0
  have e2 := idxI (x := k1) (by omega)
  rw [show k1.toNatClampNeg = k.toNatClampNeg + 1 from by omega, spc_sp h2]
  omega
theorem sp_same {k k1 : Int32} {m : Int} (h1 : m + 1 = (spc k.toNatClampNeg : Int)) (h2 : ¬ w0 k.toNatClampNeg = 32) (h0 : 0 ≤ k.toInt) (hk : k1.toInt = k.toInt + 1) : m + 1 = (spc k1.toNatClampNeg : Int) := by
  have e1 := idxI h0
  have e2 := idxI (x := k1) (by omega)
  rw [show k1.toNatClampNeg = k.toNatClampNeg + 1 from by omega, spc_no h2]
  exact h1
def AGN (tk v f s : Int) : Prop := tk = 2 → v = 30 → f + 3 ≤ s
def W30 (v f s : Int) : Prop := v = 30 → f + 3 ≤ s
def RSD (tk v op : Int) : Prop := (tk = 2 ∧ v = 28) ∨ (tk = 2 ∧ v = 29) ∨ (tk = 2 ∧ v = 30) ∨ (0 < op ∧ tk = 4 ∧ v = 41)
theorem pathsOK_hi {f g : Nat → Int32} {i x : Int32} (h : pathsOK f) (hg : g = upd f i.toNatClampNeg x) (hi : 160 ≤ i.toInt) : pathsOK g := by
  have e := idxI (x := i) (by omega)
  intro j hj
  rw [hg, pk_un (by omega), pk_un (by omega)]
  exact h j hj
def PD (f : Nat → Int32) (n : Int) : Prop := ∀ i : Nat, (i : Int) < n → (0 ≤ (f (160 + 4 * i)).toInt ∧ (f (160 + 4 * i)).toInt ≤ 9) ∧ (0 ≤ (f (160 + 4 * i + 1)).toInt ∧ (f (160 + 4 * i + 1)).toInt ≤ 9)
def PT (f g : Nat → Int32) (a : Nat) : Prop := ((0 ≤ (g a).toInt ∧ (g a).toInt ≤ 9) ∧ (0 ≤ (g (a + 1)).toInt ∧ (g (a + 1)).toInt ≤ 9)) ∧ ∀ j : Nat, (j < a ∨ a + 4 ≤ j) → g j = f j
theorem PD_step {f g : Nat → Int32} {k k' : Int} {a : Nat} (h : PD f k) (hp : PT f g a) (ha : (a : Int) = 160 + 4 * k) (hk : k' = k + 1) : PD g k' := by
  intro i hi
  by_cases q : (i : Int) < k
  · rw [hp.2 _ (by omega), hp.2 _ (by omega)]; exact h i q
  · rw [show 160 + 4 * i = a from by omega]; exact hp.1
theorem pathsOK_MV {f g : Nat → Int32} {n m : Int} (h : pathsOK f) (hd : PD f n) (hm : MV g f 0 160 m) (hmn : m = 4 * n) (h0 : 0 ≤ n) : pathsOK g := by
  intro i hi
  by_cases q : (i : Int) < n
  · have z := hd i q
    have y1 := hm.1 (4 * i) (by omega)
    have y2 := hm.1 (4 * i + 1) (by omega)
    rw [Nat.zero_add] at y1 y2
    rw [y1, y2]
    exact z
  · rw [hm.2 _ (by omega), hm.2 _ (by omega)]
    exact h i hi
def SP (o h : Nat → Int32) (hs : Int) (k t u : Nat) : Prop :=
  (o k = 0 ∧ (0 ≤ (h k).toInt ∧ (h k).toInt < hs) ∧ u = t) ∨ (o k = 1 ∧ (1 ≤ (h k).toInt ∧ (h k).toInt ≤ 60) ∧ u = t) ∨ (o k = 2 ∧ (1 ≤ (h k).toInt ∧ (h k).toInt ≤ 9) ∧ t ≤ 3 ∧ u = t + 1) ∨ (o k = 3 ∧ 1 ≤ t ∧ u + 1 = t)
def RSP (o h : Nat → Int32) (hs : Int) (n t : Nat) : Prop := ∃ d : Nat → Nat, d 0 = 0 ∧ d n = t ∧ ∀ k : Nat, k < n → SP o h hs k (d k) (d (k + 1))
theorem RSP_nil {o h : Nat → Int32} {hs : Int} : RSP o h hs 0 0 := ⟨fun _ => 0, rfl, rfl, fun k hk => absurd hk (by omega)⟩
theorem RSP_n {o h : Nat → Int32} {hs : Int} {n n' t t' : Nat} (q : RSP o h hs n t) (e : n' = n) (e2 : t' = t) : RSP o h hs n' t' := by subst e; subst e2; exact q
theorem RSP_snoc {o h o' h' : Nat → Int32} {hs : Int} {n m t u : Nat} {w v : Int32} (q : RSP o h hs n t) (hm : EM o h o' h' n w v) (hs' : (w = 0 ∧ (0 ≤ v.toInt ∧ v.toInt < hs) ∧ u = t) ∨ (w = 1 ∧ (1 ≤ v.toInt ∧ v.toInt ≤ 60) ∧ u = t) ∨ (w = 2 ∧ (1 ≤ v.toInt ∧ v.toInt ≤ 9) ∧ t ≤ 3 ∧ u = t + 1) ∨ (w = 3 ∧ 1 ≤ t ∧ u + 1 = t)) (hn : m = n + 1) : RSP o' h' hs m u := by
  subst hn
  obtain ⟨d, h1, h2, h3⟩ := q
  refine ⟨fun k => if k = n + 1 then u else d k, ?_, ?_, ?_⟩
  · show (if 0 = n + 1 then u else d 0) = 0
    rw [if_neg (by omega)]; exact h1
  · show (if n + 1 = n + 1 then u else _) = u
    rw [if_pos rfl]
  · intro k hk
    show SP o' h' hs k (if k = n + 1 then u else d k) (if k + 1 = n + 1 then u else d (k + 1))
    rw [if_neg (by omega)]
    by_cases e : k = n
    · subst e
      rw [if_pos rfl, h2]
      unfold SP
      rw [hm.1, hm.2.1]
      exact hs'
    · rw [if_neg (by omega)]
      have z := h3 k (by omega)
      unfold SP at z ⊢
      rw [(hm.2.2 k e).1, (hm.2.2 k e).2]
      exact z
