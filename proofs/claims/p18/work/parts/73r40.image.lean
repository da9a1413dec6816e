/-! images: what is kept at which place -/
theorem upd_same {f : Nat → Int32} {i v : Int32} (hv : v = f i.toNatClampNeg) : upd f i.toNatClampNeg v = f := by
  funext j
  by_cases h : j = i.toNatClampNeg
  · rw [h, pk_us, hv]
  · rw [pk_un h]
theorem atI {k : Int32} {p : Nat} (h : k.toInt = p) : k.toNatClampNeg = p := by
  have e := idxI (x := k) (by omega)
  omega
def SGT (im row : Nat → Int32) (b off s : Nat) (n : Int) : Prop := ∀ j : Nat, (j : Int) < n → im (off + s * j) = row (b + j)
theorem SGT_nil {im row : Nat → Int32} {b off s : Nat} {n : Int} (h : n ≤ 0) : SGT im row b off s n := fun j hj => absurd hj (by omega)
theorem SGT_n {im row : Nat → Int32} {b off s : Nat} {n m : Int} (h : SGT im row b off s n) (e : m ≤ n) : SGT im row b off s m := fun j hj => h j (by omega)
theorem SGT_put {im im' row : Nat → Int32} {b off s : Nat} {n m : Int} {at' v i : Int32} (h : SGT im row b off s n) (e : im' = upd im at'.toNatClampNeg v) (h0 : 0 ≤ n) (hat : at'.toInt = off + s * n) (hv : v = row i.toNatClampNeg) (hi : i.toInt = b + n) (hs : 1 ≤ s) (hm : m = n + 1) : SGT im' row b off s m := by
  intro j hj
  obtain ⟨k, rfl⟩ : ∃ k : Nat, n = k := ⟨n.toNat, by omega⟩
  have e1 := idxI (x := i) (by omega)
  have e2 : at'.toInt = ((off + s * k : Nat) : Int) := by rw [hat]; push_cast; rfl
  have e3 := atI e2
  rw [e3] at e
  by_cases q : j = k
  · subst q
    rw [e, pk_us, hv, show i.toNatClampNeg = b + j from by omega]
  · have l : s * j < s * k := Nat.mul_lt_mul_of_pos_left (by omega) (by omega)
    rw [e, pk_un (by omega)]
    exact h j (by omega)
theorem SGT_keep {im im' row : Nat → Int32} {b off s : Nat} {n : Int} {at' v : Int32} (h : SGT im row b off s n) (e : im' = upd im at'.toNatClampNeg v) (h0 : 0 ≤ at'.toInt) (hl : ∀ j : Nat, (j : Int) < n → ((off + s * j : Nat) : Int) < at'.toInt) : SGT im' row b off s n := fun j hj => by
  have e1 := idxI h0
  have := hl j hj
  rw [e, pk_un (by omega)]; exact h j hj
def FRM (im im' : Nat → Int32) (p : Nat) : Prop := ∀ j : Nat, j < p → im' j = im j
theorem FRM_nil {im : Nat → Int32} {p : Nat} : FRM im im p := fun _ _ => rfl
theorem FRM_put {im0 im im' : Nat → Int32} {p : Nat} {at' v : Int32} (h : FRM im0 im p) (e : im' = upd im at'.toNatClampNeg v) (hp : (p : Int) ≤ at'.toInt) : FRM im0 im' p := fun j hj => (un1 e (by omega) (by omega)).trans (h j hj)
theorem FRM_fr {im0 im im' : Nat → Int32} {p q : Nat} (h : FRM im0 im p) (e : FRM im im' q) (hp : p ≤ q) : FRM im0 im' p := fun j hj => (e j (by omega)).trans (h j hj)
theorem SGT_fr {im im' row : Nat → Int32} {b off s p : Nat} {n : Int} (h : SGT im row b off s n) (e : FRM im im' p) (hl : ∀ j : Nat, (j : Int) < n → off + s * j < p) : SGT im' row b off s n := fun j hj => (e _ (hl j hj)).trans (h j hj)
theorem SGT_row {im row row' : Nat → Int32} {b off s : Nat} {n m : Int} {at' v i : Int32} (h : SGT im row b off s n) (e : row' = upd row i.toNatClampNeg v) (h0 : 0 ≤ n) (hat : at'.toInt = off + s * n) (hv : v = im at'.toNatClampNeg) (hi : i.toInt = b + n) (hm : m = n + 1) : SGT im row' b off s m := by
  intro j hj
  obtain ⟨k, rfl⟩ : ∃ k : Nat, n = k := ⟨n.toNat, by omega⟩
  have e1 := idxI (x := i) (by omega)
  have e2 : at'.toInt = ((off + s * k : Nat) : Int) := by rw [hat]; push_cast; rfl
  have e3 := atI e2
  by_cases q : j = k
  · subst q
    rw [e, show b + j = i.toNatClampNeg from by omega, pk_us, hv, e3]
  · rw [e, pk_un (by omega)]
    exact h j (by omega)
theorem pplOK_tr {hs : Int} {f g : Nat → Int32} (h : pplOK hs f) (e : ∀ j : Nat, (j : Int) < hs → g j = f j) : pplOK hs g := fun j hj => by
  rw [e j hj]; exact h j hj
theorem pathsOK_tr {f g : Nat → Int32} (h : pathsOK f) (e : ∀ j : Nat, j < 160 → g j = f j) : pathsOK g := fun j hj => by
  rw [e _ (by omega), e _ (by omega)]; exact h j hj
theorem rndOK_tr {many hs : Int} {f g : Nat → Int32} (h : rndOK many hs f) (e : ∀ j : Nat, (j : Int) < many → g j = f j) : rndOK many hs g := fun j hj => by
  rw [e j hj]; exact h j hj
theorem LW_tr {p q : Nat} {o a lf lw lt o' a' lf' lw' lt' : Nat → Int32} {n : Int} (h : LW p q o a lf lw lt n 400) (hn : n ≤ 16) (e1 : ∀ j : Nat, j < 16 → lf' (p + j) = lf (p + j)) (e2 : ∀ j : Nat, j < 16 → lw' (p + j) = lw (p + j)) (e3 : ∀ j : Nat, j < 16 → lt' (p + j) = lt (p + j)) (e4 : ∀ j : Nat, j < 400 → o' (q + j) = o (q + j)) (e5 : ∀ j : Nat, j < 400 → a' (q + j) = a (q + j)) : LW p q o' a' lf' lw' lt' n 400 := by
  intro l hl
  have z := h l hl
  rw [e1 l (by omega), e2 l (by omega), e3 l (by omega)]
  have g : ∀ x y : Nat, y ≤ 400 → DP o a (q + x) (q + y) 1 → DP o' a' (q + x) (q + y) 1 := fun x y hy hd => DP_same hd (fun i h1 h2 => by
    have y1 := e4 (i - q) (by omega)
    have y2 := e5 (i - q) (by omega)
    rw [show q + (i - q) = i from by omega] at y1 y2
    exact ⟨y1, y2⟩)
  exact ⟨z.1, g _ _ (by omega) z.2.1, z.2.2.imp id (g _ _ (by omega))⟩
def IMG (im : Nat → Int32) : Prop :=
  ((0 ≤ (im 2).toInt ∧ (im 2).toInt ≤ 150) ∧ (0 ≤ (im 3).toInt ∧ (im 3).toInt ≤ 9) ∧ (0 ≤ (im 5).toInt ∧ (im 5).toInt ≤ 200) ∧ (0 ≤ (im 66).toInt ∧ (im 66).toInt ≤ 10) ∧ (((im 66).toInt = 0 ∧ (im 3).toInt = 0) ∨ (im 3).toInt < (im 66).toInt) ∧ (-29 ≤ (im 120).toInt ∧ (im 120).toInt ≤ 69) ∧ (0 ≤ (im 121).toInt ∧ (im 121).toInt ≤ 8) ∧ (0 ≤ (im 138).toInt ∧ (im 138).toInt ≤ 40) ∧ (0 ≤ (im 299).toInt ∧ (im 299).toInt ≤ 10) ∧ (0 ≤ (im 350).toInt ∧ (im 350).toInt ≤ 200) ∧ (0 ≤ (im 1451).toInt ∧ (im 1451).toInt ≤ 16) ∧ (0 ≤ (im 2300).toInt ∧ (im 2300).toInt ≤ 16)) ∧
  pplOK (im 66).toInt (fun h => im (68 + 5 * h)) ∧ pathsOK (fun j => im (139 + 1 * j)) ∧ rndOK (im 350).toInt (im 66).toInt (fun j => im (351 + 1 * j)) ∧
  LW 0 0 (fun k => im (1500 + 2 * (k - 0))) (fun k => im (1501 + 2 * (k - 0))) (fun l => im (1452 + 3 * (l - 0))) (fun l => im (1453 + 3 * (l - 0))) (fun l => im (1454 + 3 * (l - 0))) (im 1451).toInt 400 ∧
  LW 16 400 (fun k => im (2349 + 2 * (k - 400))) (fun k => im (2350 + 2 * (k - 400))) (fun l => im (2301 + 3 * (l - 16))) (fun l => im (2302 + 3 * (l - 16))) (fun l => im (2303 + 3 * (l - 16))) (im 2300).toInt 400
def IMGO (h : Int) (im : Nat → Int32) : Prop := h = 0 ∨ IMG im
theorem LW_img {p q S : Nat} {o a lf lw lt im : Nat → Int32} {n m : Int} (h : LW p q o a lf lw lt n 400) (hn : n ≤ 16) (s1 : SGT im lf p (S + 1) 3 16) (s2 : SGT im lw p (S + 2) 3 16) (s3 : SGT im lt p (S + 3) 3 16) (s4 : SGT im o q (S + 49) 2 400) (s5 : SGT im a q (S + 50) 2 400) (e : m = n) : LW p q (fun k => im (S + 49 + 2 * (k - q))) (fun k => im (S + 50 + 2 * (k - q))) (fun l => im (S + 1 + 3 * (l - p))) (fun l => im (S + 2 + 3 * (l - p))) (fun l => im (S + 3 + 3 * (l - p))) m 400 := by
  subst e
  refine LW_tr h hn (fun j hj => ?_) (fun j hj => ?_) (fun j hj => ?_) (fun j hj => ?_) (fun j hj => ?_)
  · show im (S + 1 + 3 * (p + j - p)) = _
    rw [Nat.add_sub_cancel_left]; exact s1 j (by omega)
  · show im (S + 2 + 3 * (p + j - p)) = _
    rw [Nat.add_sub_cancel_left]; exact s2 j (by omega)
  · show im (S + 3 + 3 * (p + j - p)) = _
    rw [Nat.add_sub_cancel_left]; exact s3 j (by omega)
  · show im (S + 49 + 2 * (q + j - q)) = _
    rw [Nat.add_sub_cancel_left]; exact s4 j (by omega)
  · show im (S + 50 + 2 * (q + j - q)) = _
    rw [Nat.add_sub_cancel_left]; exact s5 j (by omega)
theorem img_LW {p q S : Nat} {o a lf lw lt im : Nat → Int32} {n m : Int} (h : LW p q (fun k => im (S + 49 + 2 * (k - q))) (fun k => im (S + 50 + 2 * (k - q))) (fun l => im (S + 1 + 3 * (l - p))) (fun l => im (S + 2 + 3 * (l - p))) (fun l => im (S + 3 + 3 * (l - p))) m 400) (hn : m ≤ 16) (s1 : SGT im lf p (S + 1) 3 16) (s2 : SGT im lw p (S + 2) 3 16) (s3 : SGT im lt p (S + 3) 3 16) (s4 : SGT im o q (S + 49) 2 400) (s5 : SGT im a q (S + 50) 2 400) (e : n = m) : LW p q o a lf lw lt n 400 := by
  subst e
  refine LW_tr h hn (fun j hj => ?_) (fun j hj => ?_) (fun j hj => ?_) (fun j hj => ?_) (fun j hj => ?_)
  · show _ = im (S + 1 + 3 * (p + j - p))
    rw [Nat.add_sub_cancel_left]; exact (s1 j (by omega)).symm
  · show _ = im (S + 2 + 3 * (p + j - p))
    rw [Nat.add_sub_cancel_left]; exact (s2 j (by omega)).symm
  · show _ = im (S + 3 + 3 * (p + j - p))
    rw [Nat.add_sub_cancel_left]; exact (s3 j (by omega)).symm
  · show _ = im (S + 49 + 2 * (q + j - q))
    rw [Nat.add_sub_cancel_left]; exact (s4 j (by omega)).symm
  · show _ = im (S + 50 + 2 * (q + j - q))
    rw [Nat.add_sub_cancel_left]; exact (s5 j (by omega)).symm
def LT1 (S p q : Nat) (o a lf lw lt im im' : Nat → Int32) (n : Int) : Prop := (im' S).toInt = n ∧ SGT im' lf p (S + 1) 3 16 ∧ SGT im' lw p (S + 2) 3 16 ∧ SGT im' lt p (S + 3) 3 16 ∧ SGT im' o q (S + 49) 2 400 ∧ SGT im' a q (S + 50) 2 400 ∧ FRM im im' S
def LT0 (S p q : Nat) (o a lf lw lt o' a' lf' lw' lt' im : Nat → Int32) (n : Int) : Prop := n = (im S).toInt ∧ (SGT im lf' p (S + 1) 3 16 ∧ FRM lf lf' p) ∧ (SGT im lw' p (S + 2) 3 16 ∧ FRM lw lw' p) ∧ (SGT im lt' p (S + 3) 3 16 ∧ FRM lt lt' p) ∧ (SGT im o' q (S + 49) 2 400 ∧ FRM o o' q) ∧ (SGT im a' q (S + 50) 2 400 ∧ FRM a a' q)
theorem SGT_rf {im row row' : Nat → Int32} {b off s p : Nat} {n : Int} (h : SGT im row b off s n) (e : FRM row row' p) (hl : ∀ j : Nat, (j : Int) < n → b + j < p) : SGT im row' b off s n := fun j hj => (h j hj).trans (e _ (hl j hj)).symm
theorem SGT_z {im row : Nat → Int32} {off s : Nat} {n : Int} (h : SGT im row 0 off s n) {j : Nat} (hj : (j : Int) < n) : im (off + s * j) = row j := by
  have q := h j hj
  rwa [Nat.zero_add] at q
