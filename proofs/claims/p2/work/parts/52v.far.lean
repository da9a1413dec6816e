abbrev l99 (f : Nat → Int32) : Prop := allR 40 0 99 f
/-! FAR's rows: each HOUSE is at no distance from itself -/
def mdg (f : Nat → Int32) : Prop := (∀ j : Nat, j < 100 → -1 ≤ (f j).toInt ∧ (f j).toInt ≤ 79200) ∧ ∀ a : Nat, a < 10 → (f (11 * a)).toInt = 0
def MSB (f : Nat → Int32) (a : Nat) (B : Int) : Prop := ∀ h : Nat, h < 10 → (f (10 * a + h)).toInt ≤ B
theorem mdg_0 : mdg (fun _ => (0 : Int32)) := by
  have z : (0 : Int32).toInt = 0 := by decide +kernel
  exact ⟨fun j _ => ⟨by rw [z]; decide, by rw [z]; decide⟩, fun a _ => z⟩
theorem mdg_at {f : Nat → Int32} {i v : Int32} (h : mdg f) (e : v = f i.toNatClampNeg) (hi : 0 ≤ i.toInt ∧ i.toInt < 100) : -1 ≤ v.toInt ∧ v.toInt ≤ 79200 := by
  have q := idxI hi.1
  rw [e]
  exact h.1 _ (by omega)
theorem mdg_dg {f : Nat → Int32} {i v a : Int32} (h : mdg f) (e : v = f i.toNatClampNeg) (ha : 0 ≤ a.toInt ∧ a.toInt ≤ 9) (hi : i.toInt = 11 * a.toInt) : v.toInt = 0 := by
  have q := idxI (x := i) (by omega)
  rw [e, show i.toNatClampNeg = 11 * a.toInt.toNat from by omega]
  exact h.2 _ (by omega)
/-- a way that is shorter -/
theorem mdg_sh {f g : Nat → Int32} {i v m : Int32} (h : mdg f) (eg : g = upd f i.toNatClampNeg v) (em : m = f i.toNatClampNeg) (hi : 0 ≤ i.toInt ∧ i.toInt < 100) (hv : 0 ≤ v.toInt ∧ v.toInt ≤ 79200) (hm : m.toInt = -1 ∨ v.toInt < m.toInt) : mdg g := by
  have q := idxI hi.1
  refine ⟨fun j hj => ?_, fun a ha => ?_⟩
  · by_cases e : j = i.toNatClampNeg
    · rw [us1 (j := j) eg (by omega) (by omega)]; omega
    · rw [un1 (j := j) eg (by omega) (by omega)]; exact h.1 j hj
  · by_cases e : 11 * a = i.toNatClampNeg
    · have z := h.2 a ha
      rw [e, ← em] at z
      omega
    · rw [un1 (j := 11 * a) eg (by omega) (by omega)]; exact h.2 a ha
theorem MSB_sh {f g : Nat → Int32} {i s v m : Int32} {a : Nat} {B : Int} (h : MSB f a B) (eg : g = upd f i.toNatClampNeg v) (em : m = f s.toNatClampNeg) (hs : 10 * (a : Int) ≤ s.toInt ∧ s.toInt < 10 * (a : Int) + 10) (hi : 0 ≤ i.toInt) (hv : v.toInt ≤ m.toInt + 99) (hB : 0 ≤ B) : MSB g a (B + 99) := by
  have q := idxI (x := s) (by omega)
  have q2 := idxI hi
  intro k hk
  by_cases e : 10 * a + k = i.toNatClampNeg
  · have z := h (s.toNatClampNeg - 10 * a) (by omega)
    rw [show 10 * a + (s.toNatClampNeg - 10 * a) = s.toNatClampNeg from by omega, ← em] at z
    rw [us1 (j := 10 * a + k) eg (by omega) (by omega)]
    omega
  · rw [un1 (j := 10 * a + k) eg (by omega) (by omega)]
    have z := h k hk
    omega
theorem MSB_le {f : Nat → Int32} {a a' : Nat} {B B' : Int} (h : MSB f a B) (ha : a' = a) (hB : B ≤ B') : MSB f a' B' := by
  subst ha
  exact fun k hk => by have z := h k hk; omega
theorem MSB_at {f : Nat → Int32} {i : Int32} {a : Nat} {B : Int} (h : MSB f a B) (hi : 10 * (a : Int) ≤ i.toInt ∧ i.toInt < 10 * (a : Int) + 10) : (f i.toNatClampNeg).toInt ≤ B := by
  have q := idxI (x := i) (by omega)
  have z := h (i.toNatClampNeg - 10 * a) (by omega)
  rwa [show 10 * a + (i.toNatClampNeg - 10 * a) = i.toNatClampNeg from by omega] at z
/-- a row that is begun anew -/
def FLm (f : Nat → Int32) (a : Nat) (n : Int) : Prop := (∀ j : Nat, j < 100 → -1 ≤ (f j).toInt ∧ (f j).toInt ≤ 79200) ∧ (∀ x : Nat, x < 10 → x ≠ a → (f (11 * x)).toInt = 0) ∧ ∀ j : Nat, (j : Int) < n → (f (10 * a + j)).toInt = -1
theorem FLm_0 {f : Nat → Int32} {a : Nat} {n : Int} (h : mdg f) (hn : n = 0) : FLm f a n := ⟨h.1, fun x hx _ => h.2 x hx, fun j hj => absurd hj (by omega)⟩
theorem FLm_st {f g : Nat → Int32} {i v : Int32} {a : Nat} {n n' : Int} (h : FLm f a n) (ha : a < 10) (eg : g = upd f i.toNatClampNeg v) (hi : i.toInt = 10 * (a : Int) + n) (hn : 0 ≤ n ∧ n < 10) (hv : v.toInt = -1) (hn' : n' = n + 1) : FLm g a n' := by
  have q := idxI (x := i) (by omega)
  refine ⟨fun j hj => ?_, fun x hx hxa => ?_, fun j hj => ?_⟩
  · by_cases e : j = i.toNatClampNeg
    · rw [us1 (j := j) eg (by omega) (by omega)]; omega
    · rw [un1 (j := j) eg (by omega) (by omega)]; exact h.1 j hj
  · rw [un1 (j := 11 * x) eg (by omega) (by omega)]; exact h.2.1 x hx hxa
  · by_cases e : (j : Int) = n
    · rw [us1 (j := 10 * a + j) eg (by omega) (by omega)]; exact hv
    · rw [un1 (j := 10 * a + j) eg (by omega) (by omega)]; exact h.2.2 j (by omega)
theorem FLm_end {f g : Nat → Int32} {i v : Int32} {a : Nat} {n : Int} (h : FLm f a n) (ha : a < 10) (hn : 10 ≤ n) (eg : g = upd f i.toNatClampNeg v) (hi : i.toInt = 11 * (a : Int)) (hv : v.toInt = 0) : mdg g ∧ MSB g a 0 := by
  have q := idxI (x := i) (by omega)
  refine ⟨⟨fun j hj => ?_, fun x hx => ?_⟩, fun k hk => ?_⟩
  · by_cases e : j = i.toNatClampNeg
    · rw [us1 (j := j) eg (by omega) (by omega)]; omega
    · rw [un1 (j := j) eg (by omega) (by omega)]; exact h.1 j hj
  · by_cases e : x = a
    · rw [us1 (j := 11 * x) eg (by omega) (by omega)]; exact hv
    · rw [un1 (j := 11 * x) eg (by omega) (by omega)]; exact h.2.1 x hx e
  · by_cases e : k = a
    · rw [us1 (j := 10 * a + k) eg (by omega) (by omega)]; omega
    · rw [un1 (j := 10 * a + k) eg (by omega) (by omega)]
      have z := h.2.2 k (by omega)
      omega
/-! a ROUND's stops: HOUSES, or none -/
def STV (f : Nat → Int32) (n h : Int) : Prop := ∀ j : Nat, (j : Int) < n → j < 200 → -1 ≤ (f j).toInt ∧ (f j).toInt < h
theorem STV_at {f : Nat → Int32} {n h : Int} {i v : Int32} (q : STV f n h) (e : v = f i.toNatClampNeg) (hi : 0 ≤ i.toInt ∧ i.toInt < 200) (hn : i.toInt < n) : -1 ≤ v.toInt ∧ v.toInt < h := by
  have z := idxI hi.1
  rw [e]
  exact q _ (by omega) (by omega)
theorem STV_le {f : Nat → Int32} {n h h' n' : Int} (q : STV f n h) (hh : h ≤ h') (hn : n' ≤ n) : STV f n' h' := fun j h1 h2 => by
  have z := q j (by omega) h2
  omega
theorem STV_nil {f : Nat → Int32} {n h : Int} (hn : n ≤ 0) : STV f n h := fun j h1 _ => absurd h1 (by omega)
theorem STV_add {f g : Nat → Int32} {n h n' : Int} {i v : Int32} (q : STV f n h) (eg : g = upd f i.toNatClampNeg v) (hi : 0 ≤ i.toInt ∧ i.toInt = n) (hv : -1 ≤ v.toInt ∧ v.toInt < h) (hn : n' = n + 1) : STV g n' h := fun j h1 h2 => by
  have z := idxI hi.1
  by_cases e : (j : Int) = n
  · rw [us1 (j := j) eg (by omega) (by omega)]; exact hv
  · rw [un1 (j := j) eg (by omega) (by omega)]; exact q j (by omega) h2
theorem STV_out {f : Nat → Int32} {n n' h : Int} (q : STV f n h) (hn : n' ≤ n ∨ 200 ≤ n) : STV f n' h := fun j h1 h2 => q j (by omega) h2
theorem STV_cp {f g : Nat → Int32} {n n' h : Int} (q : STV f n h) (e : ∀ j : Nat, j < 200 → g j = f j) (hn : n' = n) : STV g n' h := fun j h1 h2 => by
  rw [e j h2]; exact q j (by omega) h2
theorem part_pos {s z m t p w : Int} (hm : m = (z - s) * t) (hw : w = s + m) (hp : p = z - s) (hs : s ≤ z) (hl : z < w) : 1 ≤ p := by
  by_cases h : p = 0
  · rw [show z - s = 0 from by omega, Int.zero_mul] at hm
    omega
  · omega
/-- the LAMP is at a HOUSE, if there is one -/
def LMP (h l : Int) : Prop := h = 0 ∨ (0 ≤ l ∧ l < h)
/-! draws: a step on and back -/
def LCG (x : Int32) : Int32 := 1664525 * x + 1013904223
def LCB (x : Int32) : Int32 := (-18851643) * (x - 1013904223)
theorem LCB_LCG (x : Int32) : LCB (LCG x) = x := by
  unfold LCB LCG
  rw [Int32.add_sub_cancel, ← Int32.mul_assoc, show ((-18851643) * 1664525 : Int32) = 1 from by decide +kernel, Int32.one_mul]
theorem LCG_of {d v w w' : Int32} (ev : v = 1664525 * d) (ew : w = v + 1013904223) (e : w' = w) : w' = LCG d := by
  rw [e, ew, ev]
  rfl
def fw1 (f : Int) (d : Int32) : Int32 := if f = 0 then d else LCG d
def bk1 (f : Int) (d : Int32) : Int32 := if f = 0 then d else LCB d
theorem fw1_0 {f : Int} {d d' : Int32} (h : f = 0) (e : d' = d) : d' = fw1 f d := by unfold fw1; rw [if_pos h]; exact e
theorem fw1_n {f : Int} {d d' : Int32} (h : ¬ f = 0) (e : d' = LCG d) : d' = fw1 f d := by unfold fw1; rw [if_neg h]; exact e
theorem bk1_fw1 (f : Int) (d : Int32) : bk1 f (fw1 f d) = d := by
  unfold bk1 fw1
  by_cases h : f = 0
  · rw [if_pos h, if_pos h]
  · rw [if_neg h, if_neg h]; exact LCB_LCG d
def fwD (f : Int) (d : Int32) : Nat → Int32
  | 0 => d
  | k + 1 => fw1 f (fwD f d k)
def bkD (f : Int) : Nat → Int32 → Int32
  | 0, d => d
  | k + 1, d => bkD f k (bk1 f d)
theorem bkD_s {f : Int} {k : Nat} {d : Int32} : bkD f (k + 1) d = bkD f k (bk1 f d) := rfl
theorem bkD_fw {f : Int} {k j : Nat} {d : Int32} (h : j = k + 1) : bkD f j (fw1 f d) = bkD f k d := by
  subst h
  rw [bkD_s, bk1_fw1]
theorem bkD_1 {f : Int} {j : Nat} {d : Int32} (h : j = 1) : bkD f j d = bk1 f d := by subst h; rfl
theorem bkD_i {f : Int} {j k : Nat} {d : Int32} (h : j = k) : bkD f j d = bkD f k d := by rw [h]
theorem bkD_j {f : Int} {j k : Nat} {d d' : Int32} (h : j = k + 1) (hd : d' = bk1 f d) : bkD f j d = bkD f k d' := by
  subst h hd
  rfl
theorem fwD_i {f : Int} {j k : Nat} {d : Int32} (h : j = k) : fwD f d j = fwD f d k := by rw [h]
theorem fwD_s {f g : Int} {d d1 d2 : Int32} {i j : Int} (h : d1 = fwD f d i.toNat) (e : d2 = fw1 g d1) (hg : g = f) (hi : 0 ≤ i) (hj : j = i + 1) : d2 = fwD f d j.toNat := by
  subst hg
  rw [e, h, show j.toNat = i.toNat + 1 from by omega]
  rfl
theorem fwD_z {f : Int} {d d1 : Int32} {i : Int} (e : d1 = d) (hi : i = 0) : d1 = fwD f d i.toNat := by
  subst e hi
  rfl
theorem fwD_c {f : Int} {d d1 d2 : Int32} {i j : Int} (h : d1 = fwD f d i.toNat) (e : d2 = d1) (hj : j = i) : d2 = fwD f d j.toNat := by
  subst e hj
  exact h
theorem fw1_c {f f' : Int} {d d' e e' : Int32} (h : e = fw1 f d) (h1 : e' = e) (h2 : d = d') (hf : f = f') : e' = fw1 f' d' := by
  subst h1 h2 hf
  exact h
