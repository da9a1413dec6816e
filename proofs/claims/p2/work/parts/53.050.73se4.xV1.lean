/-! nights that are kept in a ring -/
def rq6 (a0 a1 a2 a3 a4 a5 : Int) : Nat → Int
  | 0 => a0
  | 1 => a1
  | 2 => a2
  | 3 => a3
  | 4 => a4
  | _ => a5
def RGL (o u n : Int) (q l : Nat → Int) (h c : Int) : Prop := ∀ k : Nat, u - c ≤ (k : Int) → (k : Int) < u → q ((o.toNat + k) % 6) = n - (u - (k : Int)) ∧ 0 ≤ l ((o.toNat + k) % 6) ∧ l ((o.toNat + k) % 6) < h
theorem RGL_nil {o u n h c : Int} {q l : Nat → Int} (hc : c ≤ 0) : RGL o u n q l h c := fun k h1 h2 => absurd h1 (by omega)
theorem RGL_0 {o u n h c : Int} {q l : Nat → Int} (hu : u ≤ 0) : RGL o u n q l h c := fun k _ h2 => absurd h2 (by omega)
/-- a night is kept at the place s, with room or in the oldest's place -/
theorem RGL_keep {o u n h c o' u' c' : Int} {q q' l l' : Nat → Int} {s : Nat} (hr : RGL o u n q l h c) (ho : 0 ≤ o ∧ o ≤ 5) (hu : 0 ≤ u ∧ u ≤ 6) (hs : (o.toNat + u.toNat) % 6 = s) (hq : ∀ j : Nat, j < 6 → j ≠ s → q' j = q j ∧ l' j = l j) (hn : q' s = n) (hl : 0 ≤ l' s ∧ l' s < h) (hc : c' ≤ c + 1) (hk : (u ≤ 5 ∧ u' = u + 1 ∧ o' = o) ∨ (u = 6 ∧ u' = 6 ∧ (o' = o + 1 ∧ o ≤ 4 ∨ o' = 0 ∧ o = 5))) : RGL o' u' (n + 1) q' l' h c' := by
  intro k h1 h2
  rcases hk with ⟨k1, rfl, rfl⟩ | ⟨k1, rfl, k3⟩
  · by_cases e : (k : Int) = u
    · have e2 : (o'.toNat + k) % 6 = s := by rw [show k = u.toNat from by omega]; exact hs
      rw [e2, hn]
      exact ⟨by omega, hl⟩
    · have z := hq _ (Nat.mod_lt (o'.toNat + k) (by decide)) (by omega)
      have y := hr k (by omega) (by omega)
      rw [z.1, z.2, y.1]
      exact ⟨by omega, y.2⟩
  · by_cases e : (k : Int) = 5
    · have e2 : (o'.toNat + k) % 6 = s := by omega
      rw [e2, hn]
      exact ⟨by omega, hl⟩
    · have e2 : (o'.toNat + k) % 6 = (o.toNat + (k + 1)) % 6 := by omega
      have z := hq _ (Nat.mod_lt (o.toNat + (k + 1)) (by decide)) (by omega)
      have y := hr (k + 1) (by omega) (by omega)
      rw [e2, z.1, z.2, y.1]
      exact ⟨by omega, y.2⟩
theorem RGL_last {o u n h c : Int} {q l : Nat → Int} {s : Nat} (hr : RGL o u n q l h c) (hu : 1 ≤ u) (hc : c = u) (hs : (o.toNat + (u.toNat - 1)) % 6 = s) : q s = n - 1 ∧ 0 ≤ l s ∧ l s < h := by
  have z := hr (u.toNat - 1) (by omega) (by omega)
  rw [hs] at z
  exact ⟨by omega, z.2⟩
theorem RGL_less {o u n u' n' h c c' : Int} {q l : Nat → Int} (hr : RGL o u n q l h c) (hu : u' = u - 1) (hn : n' = n - 1) (hc : c = u) : RGL o u' n' q l h c' := fun k h1 h2 => by
  have z := hr k (by omega) (by omega)
  exact ⟨by omega, z.2⟩
/-- set's bounds, as the class has them -/
theorem set_tab {w lo hi : Int32} (h0 : 0 ≤ w.toInt ∧ w.toInt ≤ 10) (e1 : f_least w.toNatClampNeg = .int lo) (e2 : f_most w.toNatClampNeg = .int hi) : (w.toInt = 0 ∧ lo.toInt = 0 ∧ hi.toInt = 9) ∨ (w.toInt = 1 ∧ lo.toInt = 0 ∧ hi.toInt = 1000) ∨ (w.toInt = 2 ∧ lo.toInt = 0 ∧ hi.toInt = 99) ∨ (w.toInt = 3 ∧ lo.toInt = 1 ∧ hi.toInt = 99) ∨ (w.toInt = 4 ∧ lo.toInt = 1 ∧ hi.toInt = 99) ∨ (w.toInt = 5 ∧ lo.toInt = 0 ∧ hi.toInt = 9) ∨ (w.toInt = 6 ∧ lo.toInt = 1 ∧ hi.toInt = 20) ∨ (w.toInt = 7 ∧ lo.toInt = 0 ∧ hi.toInt = 999) ∨ (w.toInt = 8 ∧ lo.toInt = 0 ∧ hi.toInt = 99) ∨ (w.toInt = 9 ∧ lo.toInt = 0 ∧ hi.toInt = 99) ∨ (w.toInt = 10 ∧ lo.toInt = 0 ∧ hi.toInt = 9999) := by
  have q := idxI h0.1
  have z : w.toNatClampNeg = 0 ∨ w.toNatClampNeg = 1 ∨ w.toNatClampNeg = 2 ∨ w.toNatClampNeg = 3 ∨ w.toNatClampNeg = 4 ∨ w.toNatClampNeg = 5 ∨ w.toNatClampNeg = 6 ∨ w.toNatClampNeg = 7 ∨ w.toNatClampNeg = 8 ∨ w.toNatClampNeg = 9 ∨ w.toNatClampNeg = 10 := by omega
  have k : ∀ (j : Nat) (a b : Int), w.toNatClampNeg = j → (f_least j = .int lo → lo.toInt = a) → (f_most j = .int hi → hi.toInt = b) → w.toInt = (j : Int) ∧ lo.toInt = a ∧ hi.toInt = b := fun j a b hj ha hb => ⟨by omega, ha (hj ▸ e1), hb (hj ▸ e2)⟩
  rcases z with z | z | z | z | z | z | z | z | z | z | z
  · exact Or.inl (k 0 0 9 z (fun y => by injection y with y; rw [← y]; decide +kernel) (fun y => by injection y with y; rw [← y]; decide +kernel))
  · exact Or.inr (Or.inl (k 1 0 1000 z (fun y => by injection y with y; rw [← y]; decide +kernel) (fun y => by injection y with y; rw [← y]; decide +kernel)))
  · exact Or.inr (Or.inr (Or.inl (k 2 0 99 z (fun y => by injection y with y; rw [← y]; decide +kernel) (fun y => by injection y with y; rw [← y]; decide +kernel))))
  · exact Or.inr (Or.inr (Or.inr (Or.inl (k 3 1 99 z (fun y => by injection y with y; rw [← y]; decide +kernel) (fun y => by injection y with y; rw [← y]; decide +kernel)))))
  · exact Or.inr (Or.inr (Or.inr (Or.inr (Or.inl (k 4 1 99 z (fun y => by injection y with y; rw [← y]; decide +kernel) (fun y => by injection y with y; rw [← y]; decide +kernel))))))
  · exact Or.inr (Or.inr (Or.inr (Or.inr (Or.inr (Or.inl (k 5 0 9 z (fun y => by injection y with y; rw [← y]; decide +kernel) (fun y => by injection y with y; rw [← y]; decide +kernel)))))))
  · exact Or.inr (Or.inr (Or.inr (Or.inr (Or.inr (Or.inr (Or.inl (k 6 1 20 z (fun y => by injection y with y; rw [← y]; decide +kernel) (fun y => by injection y with y; rw [← y]; decide +kernel))))))))
  · exact Or.inr (Or.inr (Or.inr (Or.inr (Or.inr (Or.inr (Or.inr (Or.inl (k 7 0 999 z (fun y => by injection y with y; rw [← y]; decide +kernel) (fun y => by injection y with y; rw [← y]; decide +kernel)))))))))
  · exact Or.inr (Or.inr (Or.inr (Or.inr (Or.inr (Or.inr (Or.inr (Or.inr (Or.inl (k 8 0 99 z (fun y => by injection y with y; rw [← y]; decide +kernel) (fun y => by injection y with y; rw [← y]; decide +kernel))))))))))
  · exact Or.inr (Or.inr (Or.inr (Or.inr (Or.inr (Or.inr (Or.inr (Or.inr (Or.inr (Or.inl (k 9 0 99 z (fun y => by injection y with y; rw [← y]; decide +kernel) (fun y => by injection y with y; rw [← y]; decide +kernel)))))))))))
  · exact Or.inr (Or.inr (Or.inr (Or.inr (Or.inr (Or.inr (Or.inr (Or.inr (Or.inr (Or.inr (k 10 0 9999 z (fun y => by injection y with y; rw [← y]; decide +kernel) (fun y => by injection y with y; rw [← y]; decide +kernel)))))))))))
/-- while nights pass: i of m have passed, c of those that are kept are right -/
def NGI (m i u0 u c : Int) : Prop := (0 ≤ c ∧ c ≤ u) ∧ ((m ≤ 6 ∧ c = u ∧ ((u = 6 ∧ 6 ≤ u0 + i) ∨ u = u0 + i)) ∨ (6 < m ∧ i ≤ m - 6 ∧ c = 0 ∧ u = u0) ∨ (6 < m ∧ m - 6 ≤ i ∧ i - (m - 6) ≤ c ∧ ((u = 6 ∧ 6 ≤ u0 + (i - (m - 6))) ∨ u = u0 + (i - (m - 6)))))
section NGs
variable {m i i' u0 u u' o o' n n' h : Int} {q q' l l' : Nat → Int} {s : Nat}
theorem NG_init (hr : RGL o u n q l h u) (hu : 0 ≤ u ∧ u ≤ 6) (hi : i = 0) (he : u0 = u) : ∃ c : Int, NGI m i u0 u c ∧ RGL o u n q l h c := by
  subst hi he
  by_cases hm : m ≤ 6
  · exact ⟨u0, by unfold NGI; omega, hr⟩
  · exact ⟨0, by unfold NGI; omega, RGL_nil (by omega)⟩
theorem NG_eq (hr : ∃ c : Int, NGI m i u0 u c ∧ RGL o u n q l h c) (hi : i' = i) (hn : n' = n) : ∃ c : Int, NGI m i' u0 u c ∧ RGL o u n' q l h c := by
  subst hi hn
  exact hr
theorem NG_skip (hr : ∃ c : Int, NGI m i u0 u c ∧ RGL o u n q l h c) (hi : 6 < m - i) (h0 : 0 ≤ i) (h' : i' = i + 1) : ∃ c : Int, NGI m i' u0 u c ∧ RGL o u n' q l h c := by
  obtain ⟨c, h1, -⟩ := hr
  unfold NGI at h1
  exact ⟨0, by unfold NGI; omega, RGL_nil (by omega)⟩
theorem NG_keep (hr : ∃ c : Int, NGI m i u0 u c ∧ RGL o u n q l h c) (hi : m - i ≤ 6) (him : i < m) (h' : i' = i + 1) (hn' : n' = n + 1) (ho : 0 ≤ o ∧ o ≤ 5) (hu : 0 ≤ u ∧ u ≤ 6) (hs : (o.toNat + u.toNat) % 6 = s) (hq : ∀ j : Nat, j < 6 → j ≠ s → q' j = q j ∧ l' j = l j) (hn : q' s = n) (hl : 0 ≤ l' s ∧ l' s < h) (hk : (u ≤ 5 ∧ u' = u + 1 ∧ o' = o) ∨ (u = 6 ∧ u' = 6 ∧ (o' = o + 1 ∧ o ≤ 4 ∨ o' = 0 ∧ o = 5))) : ∃ c : Int, NGI m i' u0 u' c ∧ RGL o' u' n' q' l' h c := by
  obtain ⟨c, h1, h2⟩ := hr
  subst h' hn'
  unfold NGI at h1
  by_cases hc : c + 1 ≤ u'
  · exact ⟨c + 1, by unfold NGI; omega, RGL_keep h2 ho hu hs hq hn hl (by omega) hk⟩
  · exact ⟨u', by unfold NGI; omega, RGL_keep h2 ho hu hs hq hn hl (by omega) hk⟩
theorem NG_fin (hr : ∃ c : Int, NGI m i u0 u c ∧ RGL o u n q l h c) (hi : i = m) (hu : u ≤ 6) (h0 : 0 ≤ u0) (hm : 1 ≤ m) : ((u = 6 ∧ 6 ≤ u0 + m) ∨ u = u0 + m) ∧ RGL o u n q l h u := by
  obtain ⟨c, h1, h2⟩ := hr
  subst hi
  unfold NGI at h1
  have e : c = u := by omega
  subst e
  exact ⟨by omega, h2⟩
end NGs
theorem lt6 {j : Nat} (h : j < 6) : j = 0 ∨ j = 1 ∨ j = 2 ∨ j = 3 ∨ j = 4 ∨ j = 5 := by omega
theorem le11 {x : Int} (h0 : 0 ≤ x) (h1 : x ≤ 11) : x = 0 ∨ x = 1 ∨ x = 2 ∨ x = 3 ∨ x = 4 ∨ x = 5 ∨ x = 6 ∨ x = 7 ∨ x = 8 ∨ x = 9 ∨ x = 10 ∨ x = 11 := by omega
theorem slot6 {o u : Int} {s : Nat} (z : Int) (h : o + u = z) (h0 : 0 ≤ o) (h1 : 0 ≤ u) (hz : z.toNat % 6 = s) : (o.toNat + u.toNat) % 6 = s := by
  rw [show o.toNat + u.toNat = z.toNat from by omega, hz]
