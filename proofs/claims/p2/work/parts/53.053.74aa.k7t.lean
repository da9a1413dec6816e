/-- the reference: what is so now -/
def K7T (m : K7) (sz : Int) (tx : Nat → Int32) (ng un hi i0 : Int) : Prop := sz = m.1 ∧ tx = m.2.1 ∧ ng = m.2.2.1 ∧ un = m.2.2.2.1 ∧ (hi ≠ 0 → i0 = m.2.2.2.2 ∧ 0 ≤ i0 ∧ i0 ≤ 9999)
section K7Ts
variable {T : N7} {sz sz' ng ng' un un' hi hi' i0 i0' hc hc' : Int} {tx tx' : Nat → Int32}
theorem K7T_u0 (h : K7T T.2 sz tx ng un hi i0) (hu : un' = 0) (e3 : ng' = ng) : K7T (T7s T).2 sz tx ng' un' hi i0 := by
  obtain ⟨h1, h2, h3, -, h5⟩ := h
  exact ⟨h1, h2, e3.trans h3, hu, h5⟩
theorem K7T_now (h : K7T T.2 sz tx ng un hi i0) (e3 : ng' = ng) : K7T T.2 sz tx ng' un hi i0 := by subst e3; exact h
theorem K7T_tn {c : Prop} {r : Int32} (h : K7T T.2 sz tx ng un hi i0) (hs : (c ∧ r = 1 ∧ un' = 0) ∨ (¬ c ∧ r = 0 ∧ un' = un)) (e3 : ng' = ng) : K7T (setU T.2 (cIf c 0 T.2.2.2.2.1)) sz tx ng' un' hi i0 := by
  obtain ⟨h1, h2, h3, h4, h5⟩ := h
  subst e3
  rcases hs with ⟨c1, -, c3⟩ | ⟨c1, -, c3⟩
  · rw [cIf_t c1]; exact ⟨h1, h2, h3, c3, h5⟩
  · rw [cIf_f c1]; exact ⟨h1, h2, h3, c3.trans h4, h5⟩
theorem K7T_house {w : Int32} {pe oi : Int} {pl pl' : Nat → Int32} (h : K7T T.2 sz tx ng un hi i0) (hk : hc = T.1.1.1.toInt) (hp : ∀ j : Nat, (j : Int) < T.1.1.1.toInt → pl j = T.1.1.2.1 j) (hs : HST hc hc' pl pl' w pe oi) (hu : (hc' = hc + 1 ∧ un' = 0) ∨ (hc' = hc ∧ un' = un)) (e3 : ng' = ng) : K7T (T7h T w pe oi).2 sz tx ng' un' hi i0 := by
  obtain ⟨h1, h2, h3, h4, h5⟩ := h
  subst e3
  show K7T (setU T.2 (cIf (HOK T.1.1.1.toInt T.1.1.2.1 w.toInt pe oi) 0 T.2.2.2.2.1)) sz tx ng' un' hi i0
  have hk' := HOK_eq (w := w.toInt) (pe := pe) (oi := oi) hp
  rw [← hk] at hk' ⊢
  rcases hs with ⟨q1, q2, -, -⟩ | ⟨q1, q2, -⟩
  · rw [cIf_t (hk'.mp q1)]
    exact ⟨h1, h2, h3, (show un' = 0 from by omega), h5⟩
  · rw [cIf_f (fun z => q1 (hk'.mpr z))]
    exact ⟨h1, h2, h3, (show un' = T.2.2.2.2.1 from by omega), h5⟩
theorem K7T_nights {k r : Int} (h : K7T T.2 sz tx ng un hi i0) (hk : hc = T.1.1.1.toInt) (hu6 : un' ≤ 6) (hs : (NGC hc ng k ∧ r ≠ -1 ∧ ng' = ng + k ∧ ((un' = 6 ∧ 6 ≤ un + k) ∨ un' = un + k)) ∨ (¬ NGC hc ng k ∧ r = -1 ∧ ng' = ng ∧ un' = un)) : K7T (T7n T k).2 sz tx ng' un' hi i0 := by
  obtain ⟨h1, h2, h3, h4, h5⟩ := h
  unfold T7n
  rw [← hk, ← h3, ← h4]
  rcases hs with ⟨c, -, c2, c4⟩ | ⟨c, -, c2, c3⟩
  · rw [cIf_t c, cIf_t c]
    refine ⟨h1, h2, c2, ?_, h5⟩
    show un' = if 6 ≤ un + k then 6 else un + k
    by_cases z : 6 ≤ un + k
    · rw [if_pos z]; omega
    · rw [if_neg z]; omega
  · rw [cIf_f c, cIf_f c]
    exact ⟨h1, h2, c2, c3, h5⟩
theorem K7T_undo {r : Int32} (h : K7T T.2 sz tx ng un hi i0) (hs : (r = 0 ∧ un = 0 ∧ ng' = ng ∧ un' = un) ∨ (r = 1 ∧ 1 ≤ un ∧ un' = un - 1 ∧ ng' = ng - 1)) : r = U7 T ∧ K7T (T7u T).2 sz tx ng' un' hi i0 := by
  obtain ⟨h1, h2, h3, h4, h5⟩ := h
  unfold U7 T7u
  rw [← h4]
  rcases hs with ⟨c1, c, c2, c3⟩ | ⟨c1, c, c2, c3⟩
  · rw [if_pos c, if_pos c]
    exact ⟨c1, h1, h2, c2.trans h3, c3.trans h4, h5⟩
  · rw [if_neg (by omega), if_neg (by omega)]
    exact ⟨c1, h1, h2, by rw [← h3]; exact c3, c2, h5⟩
theorem K7T_feed {a b c d e : Int32} (h : K7T T.2 sz tx ng un hi i0) (hs : (sz ≤ 380 ∧ tx' = FD tx sz.toNat a b c d e) ∨ (381 ≤ sz ∧ tx' = tx)) (hz : (sz ≤ 380 ∧ sz' = sz + 20) ∨ (381 ≤ sz ∧ sz' = sz)) : K7T (T7f T a b c d e).2 sz' tx' ng un hi i0 := by
  obtain ⟨h1, h2, h3⟩ := h
  unfold T7f
  rw [← h1, ← h2]
  by_cases z : sz ≤ 380
  · rw [if_pos z]
    refine ⟨?_, ?_, h3⟩
    · show sz' = sz + 20; omega
    · rcases hs with ⟨-, s⟩ | ⟨s, -⟩
      · exact s
      · omega
  · rw [if_neg z]
    refine ⟨?_, ?_, h3⟩
    · rw [← h1]; omega
    · rcases hs with ⟨s, -⟩ | ⟨-, s⟩
      · omega
      · rw [← h2]; exact s
theorem K7T_end {k : Int} (h : K7T T.2 sz tx ng un hi i0) (hz : (k ≤ -1 ∧ sz' = sz) ∨ (sz + 1 ≤ k ∧ sz' = sz) ∨ (0 ≤ k ∧ k ≤ sz ∧ sz' = k)) : K7T (T7e T k).2 sz' tx ng un hi i0 := by
  obtain ⟨h1, h2⟩ := h
  unfold T7e
  rw [← h1]
  by_cases z : 0 ≤ k ∧ k ≤ sz
  · rw [if_pos z]
    exact ⟨(show sz' = k from by omega), h2⟩
  · rw [if_neg z]
    exact ⟨by rw [← h1]; omega, h2⟩
theorem TXO_U {s : Except (Int × Int) Int} {r u u' fk fp : Int} (h : TXO s r u u' fk fp) : u' = TXU s u := by
  cases s with
  | ok p => exact h.2.1
  | error e => exact h.2.1
theorem K7T_text {k : Int} (h : K7T T.2 sz tx ng un hi i0) (hu : un' = X7 T k) (hz : sz' = 0) (e3 : ng' = ng) : K7T (T7x T k).2 sz' tx ng' un' hi i0 := by
  obtain ⟨h1, h2, h3, h4, h5⟩ := h
  exact ⟨hz, h2, e3.trans h3, hu, h5⟩
theorem X7_r2 {k : Int} (h : K7T T.2 sz tx ng un hi i0) (hk : hc = T.1.1.1.toInt) (h2 : k = 2) : TXU (rdR tx sz (pathR tx sz (hc - 1)) 16 40 41 0 0) un = X7 T k := by
  obtain ⟨h1, g2, -, h4, -⟩ := h
  unfold X7
  rw [if_pos h2, hk, h1, g2, h4]
theorem X7_r3 {k : Int} (h : K7T T.2 sz tx ng un hi i0) (hk : hc = T.1.1.1.toInt) (h3 : k = 3) : TXU (rdR tx sz (needR tx sz (hc - 1)) 20 10 11 0 0) un = X7 T k := by
  obtain ⟨h1, g2, -, h4, -⟩ := h
  unfold X7
  rw [if_neg (by omega), if_pos h3, hk, h1, g2, h4]
theorem X7_r4 {k : Int} (h : K7T T.2 sz tx ng un hi i0) (hk : hc = T.1.1.1.toInt) (h4' : k = 4) : TXU (roundR tx sz (hc - 1) 0) un = X7 T k := by
  obtain ⟨h1, g2, -, h4, -⟩ := h
  unfold X7
  rw [if_neg (by omega), if_neg (by omega), if_pos h4', hk, h1, g2, h4]
theorem X7_rx {k : Int} (h : K7T T.2 sz tx ng un hi i0) (hk : k ≠ 2 ∧ k ≠ 3 ∧ k ≠ 4) : un = X7 T k := by
  obtain ⟨-, -, -, h4, -⟩ := h
  unfold X7
  rw [if_neg hk.1, if_neg hk.2.1, if_neg hk.2.2]
  exact h4
theorem K7T_take (h : K7T T.2 sz tx ng un hi i0) (hb : 0 ≤ ng ∧ ng ≤ 9999) (k1 : i0' = ng) : K7T (T7i1 T).2 sz tx ng un hi' i0' := by
  obtain ⟨h1, h2, h3, h4, -⟩ := h
  exact ⟨h1, h2, h3, h4, fun _ => ⟨k1.trans h3, by omega⟩⟩
theorem K7T_give {o : Option KV} (h : K7T T.2 sz tx ng un hi i0) (ho : (hi = 0 ∧ T.1.2 = none) ∨ (hi ≠ 0 ∧ ∃ t : KV, T.1.2 = some t)) (k : (hi = 0 ∧ ng' = ng ∧ un' = un) ∨ (hi ≠ 0 ∧ ng' = i0 ∧ un' = 0)) (eh : (hi = 0 ∧ hi' = 0) ∨ (hi ≠ 0 ∧ hi' ≠ 0)) : K7T (T7i0 T).2 sz tx ng' un' hi' i0 := by
  obtain ⟨h1, h2, h3, h4, h5⟩ := h
  rcases ho with ⟨o1, o2⟩ | ⟨o1, t, o2⟩
  · have e : (T7i0 T).2 = T.2 := by unfold T7i0; rw [o2]
    rw [e]
    rcases k with ⟨-, k2, k3⟩ | ⟨k1, -⟩
    · exact ⟨h1, h2, k2.trans h3, k3.trans h4, fun z => absurd z (by omega)⟩
    · exact absurd o1 k1
  · have e : (T7i0 T).2 = (T.2.1, T.2.2.1, T.2.2.2.2.2, 0, T.2.2.2.2.2) := by unfold T7i0; rw [o2]
    rw [e]
    rcases k with ⟨k1, -⟩ | ⟨-, k2, k3⟩
    · exact absurd k1 o1
    · exact ⟨h1, h2, k2.trans (h5 o1).1, k3, fun _ => h5 o1⟩
end K7Ts
