/-! words: which one stands there -/
theorem wm_inj {t : Nat → Int32} : ∀ (u v : List Int) (a : Int), u.length = v.length → wmI t u a = true → wmI t v a = true → u = v
  | [], [], _, _, _, _ => rfl
  | [], _ :: _, _, h, _, _ => absurd h (by simp)
  | _ :: _, [], _, h, _, _ => absurd h (by simp)
  | c :: u, d :: v, a, h, h1, h2 => by
    have h1 : (decide ((t a.toNat).toInt = c) && wmI t u (a + 1)) = true := h1
    have h2 : (decide ((t a.toNat).toInt = d) && wmI t v (a + 1)) = true := h2
    rw [Bool.and_eq_true, decide_eq_true_iff] at h1 h2
    rw [wm_inj u v (a + 1) (Nat.succ.inj h) h1.2 h2.2, ← h1.1, ← h2.1]
theorem ws_inj {t : Nat → Int32} {a b : Int} {u v : List Int} (h1 : wsI t a b u = true) (h2 : wsI t a b v = true) : u = v := by
  obtain ⟨k1, k2⟩ := wxI_ws.mp h1
  obtain ⟨l1, l2⟩ := wxI_ws.mp h2
  exact wm_inj u v a (by omega) k2 l2
theorem wx_of {t : Nat → Int32} {a b : Int} : ∀ (ws : List (List Int)) (k : Int), (wxI t a b ws k = -1 ∧ ∀ j : Nat, j < ws.length → wsI t a b (ws.getD j []) = false) ∨ ∃ j : Nat, j < ws.length ∧ wxI t a b ws k = k + (j : Int) ∧ wsI t a b (ws.getD j []) = true
  | [], _ => Or.inl ⟨rfl, fun j hj => absurd hj (Nat.not_lt_zero j)⟩
  | w :: ws, k => by
    show ((if wsI t a b w = true then k else wxI t a b ws (k + 1)) = -1 ∧ _) ∨ _
    by_cases h : wsI t a b w = true
    · refine Or.inr ⟨0, Nat.succ_pos _, ?_, h⟩
      show (if wsI t a b w = true then k else wxI t a b ws (k + 1)) = k + ((0 : Nat) : Int)
      rw [if_pos h]; omega
    · have e : (if wsI t a b w = true then k else wxI t a b ws (k + 1)) = wxI t a b ws (k + 1) := if_neg h
      rw [e]
      rcases wx_of (t := t) (a := a) (b := b) ws (k + 1) with ⟨q1, q2⟩ | ⟨j, q1, q2, q3⟩
      · refine Or.inl ⟨q1, fun j hj => ?_⟩
        cases j with
        | zero => exact Bool.eq_false_iff.mpr h
        | succ j => exact q2 j (Nat.lt_of_succ_lt_succ hj)
      · refine Or.inr ⟨j + 1, Nat.succ_lt_succ q1, ?_, q3⟩
        show (if wsI t a b w = true then k else wxI t a b ws (k + 1)) = _
        rw [e, q2]; omega
/-- in words that differ, a number is its word -/
def ndW (ws : List (List Int)) : Bool := (List.range ws.length).all (fun i => (List.range ws.length).all (fun j => decide (i = j) || !decide (ws.getD i [] = ws.getD j [])))
theorem ndW_at {ws : List (List Int)} (h : ndW ws = true) {i j : Nat} (hi : i < ws.length) (hj : j < ws.length) (e : ws.getD i [] = ws.getD j []) : i = j := by
  have q := List.all_eq_true.mp (List.all_eq_true.mp h i (List.mem_range.mpr hi)) j (List.mem_range.mpr hj)
  rw [Bool.or_eq_true, decide_eq_true_iff] at q
  rcases q with q | q
  · exact q
  · rw [decide_eq_true e] at q; exact absurd q (by decide)
theorem wx_iff {t : Nat → Int32} {a b k : Int} {ws : List (List Int)} (h : ndW ws = true) (hk : 0 ≤ k) {j : Nat} (hj : j < ws.length) : wxI t a b ws k = k + (j : Int) ↔ wsI t a b (ws.getD j []) = true := by
  rcases wx_of (t := t) (a := a) (b := b) ws k with ⟨q1, q2⟩ | ⟨i, q1, q2, q3⟩
  · constructor
    · intro z; omega
    · intro z; rw [q2 j hj] at z; exact absurd z (by decide)
  · constructor
    · intro z
      have e : i = j := by omega
      rw [← e]; exact q3
    · intro z
      have e : i = j := ndW_at h q1 hj (ws_inj q3 z)
      rw [q2, e]
theorem WL_nd : ndW WL = true := by decide +kernel
theorem AGN_tk {t : Nat → Int32} {n p fr sp tok val : Int} (h : TKR t n p fr sp tok val) : AGN tok val fr sp := by
  intro h2 h30
  have q := h.2.2.2.1 h2
  have z : wsI t fr sp (WL.getD 30 []) = true := (wx_iff (k := 0) WL_nd (by decide) (show 30 < WL.length from by decide)).mp (by omega)
  have y := (wxI_ws.mp z).1
  have l : (WL.getD 30 []).length = 5 := by decide
  rw [l] at y
  omega
