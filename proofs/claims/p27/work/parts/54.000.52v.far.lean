def LCG (x : Int32) : Int32 := 1664525 * x + 1013904223
def LCB (x : Int32) : Int32 := (-18851643) * (x - 1013904223)
theorem LCB_LCG (x : Int32) : LCB (LCG x) = x := by
  unfold LCB LCG
  rw [Int32.add_sub_cancel, ← Int32.mul_assoc, show ((-18851643) * 1664525 : Int32) = 1 from by decide +kernel, Int32.one_mul]
theorem LCG_of {d v w w' : Int32} (ev : v = 1664525 * d) (ew : w = v + 1013904223) (e : w' = w) : w' = LCG d := by
  rw [e, ew, ev]
  rfl
def fw1 (f : Int) (d : Int32) : Int32 := if f = 0 then d else LCG d
def bk1 (f : Int) (d : Int32) : Int32 := if f = 0 then d else LCB d
theorem fw1_0 {f : Int} {d d' : Int32} (h : f = 0) (e : d' = d) : d' = fw1 f d := by unfold fw1; rw [if_pos h]; exact e
theorem fw1_n {f : Int} {d d' : Int32} (h : ¬ f = 0) (e : d' = LCG d) : d' = fw1 f d := by unfold fw1; rw [if_neg h]; exact e
theorem bk1_fw1 (f : Int) (d : Int32) : bk1 f (fw1 f d) = d := by
  unfold bk1 fw1
  by_cases h : f = 0
  · rw [if_pos h, if_pos h]
  · rw [if_neg h, if_neg h]; exact LCB_LCG d
def fwD (f : Int) (d : Int32) : Nat → Int32
  | 0 => d
  | k + 1 => fw1 f (fwD f d k)
def bkD (f : Int) : Nat → Int32 → Int32
  | 0, d => d
  | k + 1, d => bkD f k (bk1 f d)
theorem bkD_s {f : Int} {k : Nat} {d : Int32} : bkD f (k + 1) d = bkD f k (bk1 f d) := rfl
theorem bkD_fw {f : Int} {k j : Nat} {d : Int32} (h : j = k + 1) : bkD f j (fw1 f d) = bkD f k d := by
  subst h
  rw [bkD_s, bk1_fw1]
theorem bkD_1 {f : Int} {j : Nat} {d : Int32} (h : j = 1) : bkD f j d = bk1 f d := by subst h; rfl
theorem bkD_i {f : Int} {j k : Nat} {d : Int32} (h : j = k) : bkD f j d = bkD f k d := by rw [h]
theorem bkD_j {f : Int} {j k : Nat} {d d' : Int32} (h : j = k + 1) (hd : d' = bk1 f d) : bkD f j d = bkD f k d' := by
  subst h hd
  rfl
theorem fwD_i {f : Int} {j k : Nat} {d : Int32} (h : j = k) : fwD f d j = fwD f d k := by rw [h]
theorem fwD_s {f g : Int} {d d1 d2 : Int32} {i j : Int} (h : d1 = fwD f d i.toNat) (e : d2 = fw1 g d1) (hg : g = f) (hi : 0 ≤ i) (hj : j = i + 1) : d2 = fwD f d j.toNat := by
  subst hg
  rw [e, h, show j.toNat = i.toNat + 1 from by omega]
  rfl
theorem fwD_z {f : Int} {d d1 : Int32} {i : Int} (e : d1 = d) (hi : i = 0) : d1 = fwD f d i.toNat := by
  subst e hi
  rfl
theorem fwD_c {f : Int} {d d1 d2 : Int32} {i j : Int} (h : d1 = fwD f d i.toNat) (e : d2 = d1) (hj : j = i) : d2 = fwD f d j.toNat := by
  subst e hj
  exact h
theorem fw1_c {f f' : Int} {d d' e e' : Int32} (h : e = fw1 f d) (h1 : e' = e) (h2 : d = d') (hf : f = f') : e' = fw1 f' d' := by
  subst h1 h2 hf
  exact h
