/-! a night is kept, at the place that the ring says -/
theorem rq6_0 {a0 a1 a2 a3 a4 a5 : Int} : rq6 a0 a1 a2 a3 a4 a5 0 = a0 := rfl
theorem rq6_1 {a0 a1 a2 a3 a4 a5 : Int} : rq6 a0 a1 a2 a3 a4 a5 1 = a1 := rfl
theorem rq6_2 {a0 a1 a2 a3 a4 a5 : Int} : rq6 a0 a1 a2 a3 a4 a5 2 = a2 := rfl
theorem rq6_3 {a0 a1 a2 a3 a4 a5 : Int} : rq6 a0 a1 a2 a3 a4 a5 3 = a3 := rfl
theorem rq6_4 {a0 a1 a2 a3 a4 a5 : Int} : rq6 a0 a1 a2 a3 a4 a5 4 = a4 := rfl
theorem rq6_5 {a0 a1 a2 a3 a4 a5 : Int} : rq6 a0 a1 a2 a3 a4 a5 5 = a5 := rfl
theorem rq6_ex {a0 a1 a2 a3 a4 a5 b0 b1 b2 b3 b4 b5 : Int} (s : Nat) (h0 : s ≠ 0 → b0 = a0) (h1 : s ≠ 1 → b1 = a1) (h2 : s ≠ 2 → b2 = a2) (h3 : s ≠ 3 → b3 = a3) (h4 : s ≠ 4 → b4 = a4) (h5 : s ≠ 5 → b5 = a5) : ∀ j : Nat, j < 6 → j ≠ s → rq6 b0 b1 b2 b3 b4 b5 j = rq6 a0 a1 a2 a3 a4 a5 j := by
  intro j hj hs
  rcases lt6 hj with rfl | rfl | rfl | rfl | rfl | rfl
  · exact rq6_0.trans ((h0 (Ne.symm hs)).trans rq6_0.symm)
  · exact rq6_1.trans ((h1 (Ne.symm hs)).trans rq6_1.symm)
  · exact rq6_2.trans ((h2 (Ne.symm hs)).trans rq6_2.symm)
  · exact rq6_3.trans ((h3 (Ne.symm hs)).trans rq6_3.symm)
  · exact rq6_4.trans ((h4 (Ne.symm hs)).trans rq6_4.symm)
  · exact rq6_5.trans ((h5 (Ne.symm hs)).trans rq6_5.symm)
theorem NG_keepA {m i i' u0 u u' o o' n n' h lm : Int} {q q' l l' : Nat → Int} (hr : ∃ c : Int, NGI m i u0 u c ∧ RGL o u n q l h c) (hi : m - i ≤ 6) (him : i < m) (h' : i' = i + 1) (hn' : n' = n + 1) (ho : 0 ≤ o ∧ o ≤ 5) (hu : 0 ≤ u ∧ u ≤ 6) (hq : ∃ s : Nat, (o.toNat + u.toNat) % 6 = s ∧ (∀ j : Nat, j < 6 → j ≠ s → q' j = q j ∧ l' j = l j) ∧ q' s = n ∧ l' s = lm) (hl : 0 ≤ lm ∧ lm < h) (hk : (u ≤ 5 ∧ u' = u + 1 ∧ o' = o) ∨ (u = 6 ∧ u' = 6 ∧ (o' = o + 1 ∧ o ≤ 4 ∨ o' = 0 ∧ o = 5))) : ∃ c : Int, NGI m i' u0 u' c ∧ RGL o' u' n' q' l' h c := by
  obtain ⟨s, h1, h2, h3, h4⟩ := hq
  exact NG_keep hr hi him h' hn' ho hu h1 h2 h3 (by rw [h4]; exact hl) hk
