theorem SP_again {o h : Nat → Int32} {hs : Int} {k t u : Nat} (q : SP o h hs k t u) (hk : o k = 2) : (1 ≤ (h k).toInt ∧ (h k).toInt ≤ 9) ∧ t ≤ 3 ∧ u = t + 1 := by
  rcases q with z | z | z | z
  · rw [hk] at z; exact absurd z.1 (by decide)
  · rw [hk] at z; exact absurd z.1 (by decide)
  · exact z.2
  · rw [hk] at z; exact absurd z.1 (by decide)
theorem SP_end {o h : Nat → Int32} {hs : Int} {k t u : Nat} (q : SP o h hs k t u) (hk : o k = 3) : 1 ≤ t ∧ u + 1 = t := by
  rcases q with z | z | z | z
  · rw [hk] at z; exact absurd z.1 (by decide)
  · rw [hk] at z; exact absurd z.1 (by decide)
  · rw [hk] at z; exact absurd z.1 (by decide)
  · exact z.2
theorem SP_go {o h : Nat → Int32} {hs : Int} {k t u : Nat} (q : SP o h hs k t u) (h2 : ¬ o k = 2) (h3 : ¬ o k = 3) : u = t ∧ (o k = 0 → 0 ≤ (h k).toInt ∧ (h k).toInt < hs) ∧ (¬ o k = 0 → 1 ≤ (h k).toInt ∧ (h k).toInt ≤ 60) := by
  rcases q with z | z | z | z
  · exact ⟨z.2.2, fun _ => z.2.1, fun y => absurd z.1 y⟩
  · exact ⟨z.2.2, fun y => absurd (y.symm.trans z.1) (by decide), fun _ => z.2.1⟩
  · exact absurd z.1 h2
  · exact absurd z.1 h3
def LZ (dd : Nat → Nat) (d k : Int) (bt tl : Nat → Int32) : Prop := d = (dd k.toNat : Int) ∧ (∀ j : Nat, (j : Int) < d → (0 ≤ (bt j).toInt ∧ (bt j).toInt < k) ∧ dd ((bt j).toInt.toNat + 1) = j + 1 ∧ (1 ≤ (tl j).toInt ∧ (tl j).toInt ≤ 9)) ∧ ∀ i j : Nat, j < i → (i : Int) < d → (bt j).toInt < (bt i).toInt
theorem LZ_nil {dd : Nat → Nat} {d k : Int} {bt tl : Nat → Int32} (h0 : dd 0 = 0) (hd : d = 0) (hk : k = 0) : LZ dd d k bt tl := by
  subst hd; subst hk
  refine ⟨?_, fun j hj => absurd hj (by omega), fun i j _ hi => absurd hi (by omega)⟩
  show (0 : Int) = (dd (Int.toNat 0) : Int)
  rw [show Int.toNat 0 = 0 from rfl, h0]; rfl
theorem LZ_fwd {dd : Nat → Nat} {d k k' : Int} {bt tl : Nat → Int32} (h : LZ dd d k bt tl) (h0 : 0 ≤ k) (hk : k' = k + 1) (hu : dd (k.toNat + 1) = dd k.toNat) : LZ dd d k' bt tl := by
  subst hk
  refine ⟨?_, fun j hj => ?_, h.2.2⟩
  · rw [show (k + 1).toNat = k.toNat + 1 from by omega, hu]; exact h.1
  · have z := h.2.1 j hj
    exact ⟨⟨z.1.1, by omega⟩, z.2⟩
theorem LZ_again {dd : Nat → Nat} {d k d' k' : Int} {bt tl bt' tl' : Nat → Int32} {i1 i2 kv hv : Int32} (h : LZ dd d k bt tl) (h0 : 0 ≤ k) (hd0 : 0 ≤ d) (e1 : bt' = upd bt i1.toNatClampNeg kv) (e2 : tl' = upd tl i2.toNatClampNeg hv) (hi1 : i1.toInt = d) (hi2 : i2.toInt = d) (hkv : kv.toInt = k) (hh : 1 ≤ hv.toInt ∧ hv.toInt ≤ 9) (hd : d' = d + 1) (hk : k' = k + 1) (hu : dd (k.toNat + 1) = dd k.toNat + 1) : LZ dd d' k' bt' tl' := by
  subst hd; subst hk
  have x1 := idxI (x := i1) (by omega)
  have x2 := idxI (x := i2) (by omega)
  have hdd := h.1
  refine ⟨?_, fun j hj => ?_, fun i j hji hi => ?_⟩
  · rw [show (k + 1).toNat = k.toNat + 1 from by omega, hu]; omega
  · by_cases q : (j : Int) < d
    · have z := h.2.1 j q
      rw [e1, e2, pk_un (by omega), pk_un (by omega)]
      exact ⟨⟨z.1.1, by omega⟩, z.2⟩
    · rw [e1, e2, show j = i1.toNatClampNeg from by omega, pk_us, show i1.toNatClampNeg = i2.toNatClampNeg from by omega, pk_us]
      refine ⟨⟨by omega, by omega⟩, ?_, hh⟩
      rw [hkv, hu]; omega
  · by_cases q : (i : Int) < d
    · rw [e1, pk_un (by omega), pk_un (by omega)]; exact h.2.2 i j hji q
    · have z := h.2.1 j (by omega)
      rw [e1, pk_un (j := j) (by omega), show i = i1.toNatClampNeg from by omega, pk_us]; omega
theorem LZ_jump {dd : Nat → Nat} {d k k' : Int} {bt tl tl' : Nat → Int32} {i1 x v i2 : Int32} (h : LZ dd d k bt tl) (hd : 1 ≤ d) (e1 : tl' = upd tl i1.toNatClampNeg x) (hi1 : i1.toInt = d - 1) (hx : 1 ≤ x.toInt ∧ x.toInt ≤ 9) (hv : v = bt i2.toNatClampNeg) (hi2 : i2.toInt = d - 1) (hk : k' = v.toInt + 1) : LZ dd d k' bt tl' := by
  subst hk
  have x1 := idxI (x := i1) (by omega)
  have x2 := idxI (x := i2) (by omega)
  have z := h.2.1 i2.toNatClampNeg (by omega)
  rw [← hv] at z
  refine ⟨?_, fun j hj => ?_, h.2.2⟩
  · rw [show (v.toInt + 1).toNat = v.toInt.toNat + 1 from by omega, z.2.1]; omega
  · have y := h.2.1 j hj
    by_cases q : (j : Int) = d - 1
    · have e : j = i2.toNatClampNeg := by omega
      subst e
      rw [e1, show i2.toNatClampNeg = i1.toNatClampNeg from by omega, pk_us, show i1.toNatClampNeg = i2.toNatClampNeg from by omega, ← hv]
      exact ⟨⟨z.1.1, by omega⟩, z.2.1, hx⟩
    · have w := h.2.2 i2.toNatClampNeg j (by omega) (by omega)
      rw [← hv] at w
      rw [e1, pk_un (by omega)]
      exact ⟨⟨y.1.1, by omega⟩, y.2⟩
theorem LZ_end {dd : Nat → Nat} {d k d' k' : Int} {bt tl tl' : Nat → Int32} {i1 x : Int32} (h : LZ dd d k bt tl) (h0 : 0 ≤ k) (hd : 1 ≤ d) (e1 : tl' = upd tl i1.toNatClampNeg x) (hi1 : i1.toInt = d - 1) (hu : dd (k.toNat + 1) + 1 = dd k.toNat) (hd' : d' = d - 1) (hk : k' = k + 1) : LZ dd d' k' bt tl' := by
  subst hk; subst hd'
  have x1 := idxI (x := i1) (by omega)
  have hdd := h.1
  refine ⟨?_, fun j hj => ?_, fun i j hji hi => h.2.2 i j hji (by omega)⟩
  · rw [show (k + 1).toNat = k.toNat + 1 from by omega]; omega
  · have z := h.2.1 j (by omega)
    rw [e1, pk_un (by omega)]
    exact ⟨⟨z.1.1, by omega⟩, z.2⟩
theorem LZ_back {dd : Nat → Nat} {d k : Int} {bt tl : Nat → Int32} (h : LZ dd d k bt tl) {i v : Int32} (hv : v = bt i.toNatClampNeg) (hi : 0 ≤ i.toInt ∧ i.toInt < d) : 0 ≤ v.toInt ∧ v.toInt < k := by
  have e := idxI hi.1
  have z := h.2.1 i.toNatClampNeg (by omega)
  rw [← hv] at z
  exact z.1
theorem LZ_left {dd : Nat → Nat} {d k : Int} {bt tl : Nat → Int32} (h : LZ dd d k bt tl) {i v : Int32} (hv : v = tl i.toNatClampNeg) (hi : 0 ≤ i.toInt ∧ i.toInt < d) : 1 ≤ v.toInt ∧ v.toInt ≤ 9 := by
  have e := idxI hi.1
  have z := h.2.1 i.toNatClampNeg (by omega)
  rw [← hv] at z
  exact z.2.2
def Mx (x0 t0 x1 t1 x2 t2 x3 t3 x4 : Int) : Int := ((((((((x0 * 11 + t0) * 142 + x1) * 11 + t1) * 142 + x2) * 11 + t2) * 142 + x3) * 11 + t3) * 142 + x4)
def lexM (S d k : Int) (bt tl : Nat → Int32) : Int :=
  Mx (if 0 < d then S - (bt 0).toInt else if d = 0 then S - k else 141) (if 0 < d then (tl 0).toInt else 10) (if 1 < d then S - (bt 1).toInt else if d = 1 then S - k else 141) (if 1 < d then (tl 1).toInt else 10) (if 2 < d then S - (bt 2).toInt else if d = 2 then S - k else 141) (if 2 < d then (tl 2).toInt else 10) (if 3 < d then S - (bt 3).toInt else if d = 3 then S - k else 141) (if 3 < d then (tl 3).toInt else 10) (if d = 4 then S - k else 141)
theorem d5 {d : Int} (h : 0 ≤ d ∧ d ≤ 4) : d = 0 ∨ d = 1 ∨ d = 2 ∨ d = 3 ∨ d = 4 := by omega
theorem lex_nn {dd : Nat → Nat} {S d k : Int} {bt tl : Nat → Int32} (h : LZ dd d k bt tl) (hd : 0 ≤ d ∧ d ≤ 4) (hk : 0 ≤ k ∧ k ≤ S) : 0 ≤ lexM S d k bt tl := by
  have a0 := h.2.1 0
  have a1 := h.2.1 1
  have a2 := h.2.1 2
  have a3 := h.2.1 3
  unfold lexM Mx
  rcases d5 hd with rfl | rfl | rfl | rfl | rfl <;> simp at a0 a1 a2 a3 ⊢ <;> omega
theorem lex_fwd {S d k k' : Int} {bt tl : Nat → Int32} (hd : 0 ≤ d ∧ d ≤ 4) (hk : k' = k + 1) : lexM S d k' bt tl < lexM S d k bt tl := by
  subst hk
  unfold lexM Mx
  rcases d5 hd with rfl | rfl | rfl | rfl | rfl <;> simp <;> omega
theorem lex_again {S d k d' k' : Int} {bt tl bt' tl' : Nat → Int32} {i1 i2 kv hv : Int32} (hd0 : 0 ≤ d ∧ d ≤ 3) (e1 : bt' = upd bt i1.toNatClampNeg kv) (e2 : tl' = upd tl i2.toNatClampNeg hv) (hi1 : i1.toInt = d) (hi2 : i2.toInt = d) (hkv : kv.toInt = k) (hh : 1 ≤ hv.toInt ∧ hv.toInt ≤ 9) (hd : d' = d + 1) (hk : k' = k + 1) (hS : 0 ≤ k ∧ k < S ∧ S ≤ 140) : lexM S d' k' bt' tl' < lexM S d k bt tl := by
  subst hk; subst hd
  have b0 := fun (j : Nat) (q : ¬ (j : Int) = d) => un1 (j := j) e1 (by omega) (by omega)
  have c0 := fun (j : Nat) (q : ¬ (j : Int) = d) => un1 (j := j) e2 (by omega) (by omega)
  have b1 := fun (j : Nat) (q : (j : Int) = d) => us1 (j := j) e1 (by omega) (by omega)
  have c1 := fun (j : Nat) (q : (j : Int) = d) => us1 (j := j) e2 (by omega) (by omega)
  clear e1 e2 hi1 hi2
  unfold lexM Mx
  rcases (show d = 0 ∨ d = 1 ∨ d = 2 ∨ d = 3 by omega) with rfl | rfl | rfl | rfl
  · rw [b1 0 (by omega), c1 0 (by omega)]; simp; omega
  · rw [b0 0 (by omega), c0 0 (by omega), b1 1 (by omega), c1 1 (by omega)]; simp; omega
  · rw [b0 0 (by omega), c0 0 (by omega), b0 1 (by omega), c0 1 (by omega), b1 2 (by omega), c1 2 (by omega)]; simp; omega
  · rw [b0 0 (by omega), c0 0 (by omega), b0 1 (by omega), c0 1 (by omega), b0 2 (by omega), c0 2 (by omega), b1 3 (by omega), c1 3 (by omega)]; simp; omega
theorem lex_jump {dd : Nat → Nat} {S d k k' : Int} {bt tl tl' : Nat → Int32} {i1 x v y i2 i3 : Int32} (h : LZ dd d k bt tl) (hd : 1 ≤ d ∧ d ≤ 4) (e1 : tl' = upd tl i1.toNatClampNeg x) (hi1 : i1.toInt = d - 1) (hy : y = tl i3.toNatClampNeg) (hi3 : i3.toInt = d - 1) (hx : x.toInt = y.toInt - 1) (hv : v = bt i2.toNatClampNeg) (hi2 : i2.toInt = d - 1) (hk : k' = v.toInt + 1) (hS : 0 ≤ k ∧ k < S ∧ S ≤ 140) : lexM S d k' bt tl' < lexM S d k bt tl := by
  subst hk
  have z := LZ_back h hv (by omega)
  have c0 := fun (j : Nat) (q : ¬ (j : Int) = d - 1) => un1 (j := j) e1 (by omega) (by omega)
  have c1 := fun (j : Nat) (q : (j : Int) = d - 1) => us1 (j := j) e1 (by omega) (by omega)
  have x3 := idxI (x := i3) (by omega)
  have y1 : ∀ j : Nat, (j : Int) = d - 1 → (tl j).toInt = x.toInt + 1 := fun j q => by
    rw [show j = i3.toNatClampNeg from by omega, ← hy]; omega
  clear e1 hi1 hi2 hi3 hy hv x3
  unfold lexM Mx
  rcases (show d = 1 ∨ d = 2 ∨ d = 3 ∨ d = 4 by omega) with rfl | rfl | rfl | rfl
  · have w := y1 0 (by omega); rw [c1 0 (by omega)]; simp; omega
  · have w := y1 1 (by omega); rw [c0 0 (by omega), c1 1 (by omega)]; simp; omega
  · have w := y1 2 (by omega); rw [c0 0 (by omega), c0 1 (by omega), c1 2 (by omega)]; simp; omega
  · have w := y1 3 (by omega); rw [c0 0 (by omega), c0 1 (by omega), c0 2 (by omega), c1 3 (by omega)]; simp; omega
theorem lex_end {dd : Nat → Nat} {S d k d' k' : Int} {bt tl tl' : Nat → Int32} {i1 x : Int32} (h : LZ dd d k bt tl) (hd : 1 ≤ d ∧ d ≤ 4) (e1 : tl' = upd tl i1.toNatClampNeg x) (hi1 : i1.toInt = d - 1) (hd' : d' = d - 1) (hk : k' = k + 1) (hS : 0 ≤ k ∧ k < S ∧ S ≤ 140) : lexM S d' k' bt tl' < lexM S d k bt tl := by
  subst hk; subst hd'
  have c0 := fun (j : Nat) (q : ¬ (j : Int) = d - 1) => un1 (j := j) e1 (by omega) (by omega)
  have b : ∀ j : Nat, (j : Int) < d → (bt j).toInt < k := fun j hj => (h.2.1 j hj).1.2
  have a : ∀ j : Nat, (j : Int) < d → 1 ≤ (tl j).toInt := fun j hj => (h.2.1 j hj).2.2.1
  clear e1 hi1 h
  unfold lexM Mx
  rcases (show d = 1 ∨ d = 2 ∨ d = 3 ∨ d = 4 by omega) with rfl | rfl | rfl | rfl
  · have w := b 0 (by omega); have w2 := a 0 (by omega); simp; omega
  · have w := b 1 (by omega); have w2 := a 1 (by omega); rw [c0 0 (by omega)]; simp; omega
  · have w := b 2 (by omega); have w2 := a 2 (by omega); rw [c0 0 (by omega), c0 1 (by omega)]; simp; omega
  · have w := b 3 (by omega); have w2 := a 3 (by omega); rw [c0 0 (by omega), c0 1 (by omega), c0 2 (by omega)]; simp; omega
def rnd2 (f : Nat → Int32) (n hs : Int) : Prop := ∀ j : Nat, (j : Int) < n → -1 ≤ (f (200 + j)).toInt ∧ (f (200 + j)).toInt < hs
theorem rnd2_nil {f : Nat → Int32} {n hs : Int} (h : n ≤ 0) : rnd2 f n hs := fun j hj => absurd hj (by omega)
theorem rnd2_step {f g : Nat → Int32} {n m hs : Int} {i x : Int32} (h : rnd2 f n hs) (e : g = upd f i.toNatClampNeg x) (hi : i.toInt = 200 + n) (h0 : 0 ≤ n) (hx : -1 ≤ x.toInt ∧ x.toInt < hs) (hm : m = n + 1) : rnd2 g m hs := by
  intro j hj
  by_cases q : (j : Int) < n
  · rw [un1 (j := 200 + j) e (by omega) (by omega)]; exact h j q
  · rw [us1 (j := 200 + j) e (by omega) (by omega)]; exact hx
theorem rk_step {f g f0 : Nat → Int32} {i x : Int32} (h : ∀ j : Nat, j < 200 → f j = f0 j) (e : g = upd f i.toNatClampNeg x) (hi : 200 ≤ i.toInt) : ∀ j : Nat, j < 200 → g j = f0 j := fun j hj => by
  rw [un1 (j := j) e (by omega) (by omega)]; exact h j hj
theorem rndOK_same {many hs : Int} {f g : Nat → Int32} (h : rndOK many hs f) (e : ∀ j : Nat, j < 200 → g j = f j) (hm : many ≤ 200) : rndOK many hs g := fun j hj => by
  rw [e j (by omega)]; exact h j hj
theorem rndOK_MV {n m hs : Int} {f g : Nat → Int32} (h : rnd2 f n hs) (hm : MV g f 0 200 m) (e : m = n) : rndOK n hs g := fun j hj => by
  have z := hm.1 j (by omega)
  rw [Nat.zero_add] at z
  rw [z]; exact h j hj
