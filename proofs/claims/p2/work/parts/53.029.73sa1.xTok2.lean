/-! words and tokens of the reference -/
def WL : List (List Int) := [[116, 117, 114, 110], [98, 117, 114, 110], [119, 104, 101, 110], [111, 114], [97, 110, 100], [110, 111, 116], [104, 111, 117, 115, 101], [111, 119, 101, 100], [119, 97, 105, 116, 101, 100], [115, 110, 111, 119], [111, 105, 108], [115, 101, 97, 115, 111, 110], [112, 101, 111, 112, 108, 101], [110, 101, 101, 100, 115], [102, 97, 114], [98, 105, 100], [112, 97, 116, 104], [116, 111], [105, 110], [117, 110, 116, 105, 108], [110, 101, 101, 100], [98, 105, 114, 116, 104], [114, 101, 97, 100], [109, 101, 110, 100], [98, 114, 105, 100, 101], [97, 116], [102, 114, 111, 109], [119, 111, 114, 116, 104], [103, 111], [115, 116, 97, 121], [97, 103, 97, 105, 110]]
def posW (m : Nat) : Nat := [0, 5, 10, 15, 18, 22, 26, 32, 37, 44, 49, 53, 60, 67, 73, 77, 81, 86, 89, 92, 98, 103, 109, 114, 119, 125, 128, 133, 139, 142, 147, 153].getD m 153
theorem pos_all : (List.range 31).all (fun m => decide (posW m + 1 + (WL.getD m []).length = posW (m + 1)) && decide (posW (m + 1) ≤ 153) && decide ((w0 (posW (m + 1))).toInt = 32) && (List.range (WL.getD m []).length).all (fun j => decide ((w0 (posW m + 1 + j)).toInt = (WL.getD m []).getD j 0) && decide ((w0 (posW m + 1 + j)).toInt ≠ 32))) = true := by decide +kernel
theorem wl_len {m : Nat} (hm : m < 31) : posW m + 1 + (WL.getD m []).length = posW (m + 1) ∧ posW (m + 1) ≤ 153 ∧ (w0 (posW (m + 1))).toInt = 32 := by
  have q := List.all_eq_true.mp pos_all m (List.mem_range.mpr hm)
  rw [Bool.and_eq_true, Bool.and_eq_true, Bool.and_eq_true, decide_eq_true_iff, decide_eq_true_iff, decide_eq_true_iff] at q
  exact ⟨q.1.1.1, q.1.1.2, q.1.2⟩
theorem wl_at {m j : Nat} (hm : m < 31) (hj : j < (WL.getD m []).length) : (w0 (posW m + 1 + j)).toInt = (WL.getD m []).getD j 0 ∧ (w0 (posW m + 1 + j)).toInt ≠ 32 := by
  have q := List.all_eq_true.mp pos_all m (List.mem_range.mpr hm)
  rw [Bool.and_eq_true] at q
  have r := List.all_eq_true.mp q.2 j (List.mem_range.mpr hj)
  rw [Bool.and_eq_true, decide_eq_true_iff, decide_eq_true_iff] at r
  exact r
theorem pos_lt : ∀ m : Nat, m ≤ 31 → posW m = 153 → m = 31 := by decide +kernel
theorem wm_iff {t : Nat → Int32} : ∀ (w : List Int) (a : Int), 0 ≤ a → (wmI t w a = true ↔ ∀ j : Nat, j < w.length → (t (a.toNat + j)).toInt = w.getD j 0)
  | [], a, _ => ⟨fun _ j hj => absurd hj (by simp), fun _ => rfl⟩
  | c :: w, a, h0 => by
    show (decide ((t a.toNat).toInt = c) && wmI t w (a + 1)) = true ↔ _
    rw [Bool.and_eq_true, decide_eq_true_iff, wm_iff w (a + 1) (by omega)]
    constructor
    · intro h j hj
      cases j with
      | zero => exact h.1
      | succ j =>
        have q := h.2 j (by simp at hj; omega)
        rw [show (a + 1).toNat + j = a.toNat + (j + 1) from by omega] at q
        exact q
    · intro h
      refine ⟨h 0 (by simp), fun j hj => ?_⟩
      have q := h (j + 1) (by simp; omega)
      rw [show (a + 1).toNat + j = a.toNat + (j + 1) from by omega]
      exact q
theorem drop_getD {α : Type} {l : List α} {m : Nat} {d : α} (h : m < l.length) : l.drop m = l.getD m d :: l.drop (m + 1) := by
  rw [List.drop_eq_getElem_cons h, List.getD_eq_getElem?_getD, List.getElem?_eq_getElem h]
  rfl
theorem wx_drop {t : Nat → Int32} {a b : Int} {m : Nat} (hm : m < 31) : wxI t a b (WL.drop m) (m : Int) = if wsI t a b (WL.getD m []) = true then (m : Int) else wxI t a b (WL.drop (m + 1)) ((m : Int) + 1) := by
  rw [drop_getD (d := []) (show m < WL.length from hm)]
  rfl
/-- the row that is looked through, up to the word m -/
def WOI (t : Nat → Int32) (a b k number : Int) : Prop := ∃ m : Nat, m ≤ 31 ∧ number + 1 = (m : Int) ∧ k = (posW m : Int) ∧ wxI t a b (WL.drop m) (m : Int) = wxI t a b WL 0
theorem WOI_init {t : Nat → Int32} {a b k number : Int} (hk : k = 0) (hn : number = -1) : WOI t a b k number := ⟨0, by decide, by omega, by rw [hk]; decide +kernel, rfl⟩
theorem WOI_end {t : Nat → Int32} {a b k number : Int} (h : WOI t a b k number) (hk : 153 ≤ k) : wxI t a b WL 0 = -1 := by
  obtain ⟨m, h1, h2, h3, h4⟩ := h
  have q : posW m ≤ 153 := by
    cases m with
    | zero => decide +kernel
    | succ m => exact (wl_len (by omega)).2.1
  obtain rfl := pos_lt m h1 (by omega)
  rw [← h4]; rfl
theorem WOI_b {t : Nat → Int32} {a b k number : Int} (h : WOI t a b k number) (hk : k < 153) : -1 ≤ number ∧ number ≤ 29 := by
  obtain ⟨m, h1, h2, h3, h4⟩ := h
  by_cases e : m = 31
  · subst e; rw [show posW 31 = 153 from by decide +kernel] at h3; omega
  · omega
/-- inside a word: i signs are alike -/
def WII (t ws : Nat → Int32) (a k i : Int) : Prop := ∀ j : Nat, (j : Int) < i → (t (a.toNat + j)).toInt = (ws (k.toNat + 1 + j)).toInt
theorem WII_nil {t ws : Nat → Int32} {a k i : Int} (h : i ≤ 0) : WII t ws a k i := fun j hj => absurd hj (by omega)
theorem WII_step {t ws : Nat → Int32} {a k i m : Int} {x y v u : Int32} (h : WII t ws a k i) (ev : v = ws x.toNatClampNeg) (eu : u = t y.toNatClampNeg) (he : v.toInt = u.toInt) (ha : 0 ≤ a) (hk : 0 ≤ k) (hi : 0 ≤ i) (hx : x.toInt = k + 1 + i) (hy : y.toInt = a + i) (hm : m = i + 1) : WII t ws a k m := fun j hj => by
  have q1 := idxI (x := x) (by omega)
  have q2 := idxI (x := y) (by omega)
  by_cases hc : (j : Int) < i
  · exact h j hc
  · rw [show a.toNat + j = y.toNatClampNeg from by omega, show k.toNat + 1 + j = x.toNatClampNeg from by omega, ← ev, ← eu, he]
theorem wo_hit {t ws : Nat → Int32} {a b k i number : Int} {x v : Int32} (hw : ∀ j : Nat, j < 154 → ws j = w0 j) (h : WOI t a b k (number - 1)) (hi : WII t ws a k i) (hl : LT t a b) (ha : 0 ≤ a) (h0 : 0 ≤ i) (hb : a + i = b) (ev : v = ws x.toNatClampNeg) (hx : x.toInt = k + 1 + i) (hv : v.toInt = 32) (hk : k + 1 + i ≤ 153) : number = wxI t a b WL 0 := by
  obtain ⟨m, h1, h2, h3, h4⟩ := h
  have hm : m < 31 := by
    by_cases e : m = 31
    · subst e; rw [show posW 31 = 153 from by decide +kernel] at h3; omega
    · omega
  obtain ⟨g1, g2, g3⟩ := wl_len hm
  have q1 := idxI (x := x) (by omega)
  have hv2 : (w0 (posW m + 1 + i.toNat)).toInt = 32 := by
    rw [← hw _ (by omega), show posW m + 1 + i.toNat = x.toNatClampNeg from by omega, ← ev]; exact hv
  have hlen : i.toNat = (WL.getD m []).length := by
    rcases Nat.lt_trichotomy i.toNat (WL.getD m []).length with c | c | c
    · exact absurd hv2 (wl_at hm c).2
    · exact c
    · have z := hi (WL.getD m []).length (by omega)
      rw [hw _ (by omega), show k.toNat + 1 + (WL.getD m []).length = posW (m + 1) from by omega, g3] at z
      exact absurd z (hl (a.toNat + (WL.getD m []).length) (by omega) (by omega))
  rw [← h4, wx_drop hm, if_pos]
  · omega
  · refine wxI_ws.mpr ⟨by omega, (wm_iff _ a ha).mpr (fun j hj => ?_)⟩
    rw [hi j (by omega), hw _ (by omega), show k.toNat + 1 + j = posW m + 1 + j from by omega]
    exact (wl_at hm hj).1
theorem wo_miss {t ws : Nat → Int32} {a b k i number : Int} {x v : Int32} (hw : ∀ j : Nat, j < 154 → ws j = w0 j) (h : WOI t a b k (number - 1)) (ha : 0 ≤ a) (h0 : 0 ≤ i) (hb : a + i ≤ b) (ev : v = ws x.toNatClampNeg) (hx : x.toInt = k + 1 + i) (hk : k + 1 + i ≤ 153)
    (hd : (a + i = b ∧ v.toInt ≠ 32) ∨ (a + i < b ∧ ∃ (y u : Int32), u = t y.toNatClampNeg ∧ y.toInt = a + i ∧ v.toInt ≠ u.toInt)) : ∃ m : Nat, m < 31 ∧ number = (m : Int) ∧ k = (posW m : Int) ∧ wxI t a b (WL.drop (m + 1)) ((m : Int) + 1) = wxI t a b WL 0 := by
  obtain ⟨m, h1, h2, h3, h4⟩ := h
  have hm : m < 31 := by
    by_cases e : m = 31
    · subst e; rw [show posW 31 = 153 from by decide +kernel] at h3; omega
    · omega
  obtain ⟨g1, g2, g3⟩ := wl_len hm
  have q1 := idxI (x := x) (by omega)
  refine ⟨m, hm, by omega, h3, ?_⟩
  rw [← h4, wx_drop hm, if_neg]
  intro c
  obtain ⟨c1, c2⟩ := wxI_ws.mp c
  rcases hd with ⟨d1, d2⟩ | ⟨d1, y, u, d2, d3, d4⟩
  · apply d2
    rw [ev, hw _ (by omega), show x.toNatClampNeg = posW (m + 1) from by omega]
    exact g3
  · apply d4
    have q2 := idxI (x := y) (by omega)
    have hj : i.toNat < (WL.getD m []).length := by omega
    have z := (wm_iff _ a ha).mp c2 i.toNat hj
    rw [d2, ev, hw _ (by omega), show y.toNatClampNeg = a.toNat + i.toNat from by omega, z, show x.toNatClampNeg = posW m + 1 + i.toNat from by omega]
    exact (wl_at hm hj).1
def WOJ (t : Nat → Int32) (a b k number : Int) : Prop := ∃ m : Nat, m < 31 ∧ number = (m : Int) ∧ (posW m : Int) < k ∧ k ≤ (posW (m + 1) : Int) ∧ wxI t a b (WL.drop (m + 1)) ((m : Int) + 1) = wxI t a b WL 0
theorem WOJ_init {t : Nat → Int32} {a b k k' number : Int} (h : ∃ m : Nat, m < 31 ∧ number = (m : Int) ∧ k = (posW m : Int) ∧ wxI t a b (WL.drop (m + 1)) ((m : Int) + 1) = wxI t a b WL 0) (hk : k' = k + 1) : WOJ t a b k' number := by
  obtain ⟨m, h1, h2, h3, h4⟩ := h
  have g := (wl_len h1).1
  exact ⟨m, h1, h2, by omega, by omega, h4⟩
theorem WOJ_step {t ws : Nat → Int32} {a b k k' number : Int} {x v : Int32} (hw : ∀ j : Nat, j < 154 → ws j = w0 j) (h : WOJ t a b k number) (ev : v = ws x.toNatClampNeg) (hx : x.toInt = k) (hv : v.toInt ≠ 32) (hk : k' = k + 1) : WOJ t a b k' number := by
  obtain ⟨m, h1, h2, h3, h4, h5⟩ := h
  obtain ⟨-, g2, g3⟩ := wl_len h1
  have q1 := idxI (x := x) (by omega)
  refine ⟨m, h1, h2, by omega, ?_, h5⟩
  by_cases e : k = (posW (m + 1) : Int)
  · exfalso; apply hv
    rw [ev, hw _ (by omega), show x.toNatClampNeg = posW (m + 1) from by omega]; exact g3
  · omega
theorem WOJ_end {t ws : Nat → Int32} {a b k number : Int} {x v : Int32} (hw : ∀ j : Nat, j < 154 → ws j = w0 j) (h : WOJ t a b k number) (ev : v = ws x.toNatClampNeg) (hx : x.toInt = k) (hv : v.toInt = 32) : WOI t a b k number := by
  obtain ⟨m, h1, h2, h3, h4, h5⟩ := h
  obtain ⟨g1, g2, g3⟩ := wl_len h1
  have q1 := idxI (x := x) (by omega)
  have e : k = (posW (m + 1) : Int) := by
    by_cases e : k = (posW (m + 1) : Int)
    · exact e
    · exfalso
      have z := (wl_at (m := m) (j := k.toNat - posW m - 1) h1 (by omega)).2
      apply z
      rw [show posW m + 1 + (k.toNat - posW m - 1) = x.toNatClampNeg from by omega, ← hw _ (by omega), ← ev]; exact hv
  exact ⟨m + 1, by omega, by omega, e, by rw [← h5]; rfl⟩
