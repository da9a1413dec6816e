/-! the draws of kept nights: a ring, rows -/
def rd6 (a0 a1 a2 a3 a4 a5 : Int32) : Nat → Int32
  | 0 => a0
  | 1 => a1
  | 2 => a2
  | 3 => a3
  | 4 => a4
  | _ => a5
theorem rd6_eq {a0 a1 a2 a3 a4 a5 b0 b1 b2 b3 b4 b5 : Int32} (e0 : b0 = a0) (e1 : b1 = a1) (e2 : b2 = a2) (e3 : b3 = a3) (e4 : b4 = a4) (e5 : b5 = a5) : rd6 b0 b1 b2 b3 b4 b5 = rd6 a0 a1 a2 a3 a4 a5 := by subst e0 e1 e2 e3 e4 e5; rfl
theorem rd6_0 {a0 a1 a2 a3 a4 a5 : Int32} : rd6 a0 a1 a2 a3 a4 a5 0 = a0 := rfl
theorem rd6_1 {a0 a1 a2 a3 a4 a5 : Int32} : rd6 a0 a1 a2 a3 a4 a5 1 = a1 := rfl
theorem rd6_2 {a0 a1 a2 a3 a4 a5 : Int32} : rd6 a0 a1 a2 a3 a4 a5 2 = a2 := rfl
theorem rd6_3 {a0 a1 a2 a3 a4 a5 : Int32} : rd6 a0 a1 a2 a3 a4 a5 3 = a3 := rfl
theorem rd6_4 {a0 a1 a2 a3 a4 a5 : Int32} : rd6 a0 a1 a2 a3 a4 a5 4 = a4 := rfl
theorem rd6_5 {a0 a1 a2 a3 a4 a5 : Int32} : rd6 a0 a1 a2 a3 a4 a5 5 = a5 := rfl
theorem rd6_ex {a0 a1 a2 a3 a4 a5 b0 b1 b2 b3 b4 b5 : Int32} (s : Nat) (h0 : s ≠ 0 → b0 = a0) (h1 : s ≠ 1 → b1 = a1) (h2 : s ≠ 2 → b2 = a2) (h3 : s ≠ 3 → b3 = a3) (h4 : s ≠ 4 → b4 = a4) (h5 : s ≠ 5 → b5 = a5) : ∀ j : Nat, j < 6 → j ≠ s → rd6 b0 b1 b2 b3 b4 b5 j = rd6 a0 a1 a2 a3 a4 a5 j := by
  intro j hj hs
  rcases lt6 hj with rfl | rfl | rfl | rfl | rfl | rfl
  · exact rd6_0.trans ((h0 (Ne.symm hs)).trans rd6_0.symm)
  · exact rd6_1.trans ((h1 (Ne.symm hs)).trans rd6_1.symm)
  · exact rd6_2.trans ((h2 (Ne.symm hs)).trans rd6_2.symm)
  · exact rd6_3.trans ((h3 (Ne.symm hs)).trans rd6_3.symm)
  · exact rd6_4.trans ((h4 (Ne.symm hs)).trans rd6_4.symm)
  · exact rd6_5.trans ((h5 (Ne.symm hs)).trans rd6_5.symm)
def RGD (o u : Int) (d : Int32) (q : Nat → Int32) (f c : Int) : Prop := ∀ k : Nat, u - c ≤ (k : Int) → (k : Int) < u → q ((o.toNat + k) % 6) = bkD f (u.toNat - k) d
theorem RGD_nil {o u f c : Int} {d : Int32} {q : Nat → Int32} (hc : c ≤ 0) : RGD o u d q f c := fun k h1 h2 => absurd h1 (by omega)
theorem RGD_0 {o u f c : Int} {d : Int32} {q : Nat → Int32} (hu : u ≤ 0) : RGD o u d q f c := fun k _ h2 => absurd h2 (by omega)
/-- a night is kept at the place s, with room or in the oldest's place -/
theorem RGD_keep {o u f c o' u' c' : Int} {d : Int32} {q q' : Nat → Int32} {s : Nat} (hr : RGD o u d q f c) (ho : 0 ≤ o ∧ o ≤ 5) (hu : 0 ≤ u ∧ u ≤ 6) (hs : (o.toNat + u.toNat) % 6 = s) (hq : ∀ j : Nat, j < 6 → j ≠ s → q' j = q j) (hn : q' s = d) (hc : c' ≤ c + 1) (hk : (u ≤ 5 ∧ u' = u + 1 ∧ o' = o) ∨ (u = 6 ∧ u' = 6 ∧ (o' = o + 1 ∧ o ≤ 4 ∨ o' = 0 ∧ o = 5))) : RGD o' u' (fw1 f d) q' f c' := by
  intro k h1 h2
  rcases hk with ⟨k1, k2, k3⟩ | ⟨k1, k2, k3⟩
  · by_cases e : (k : Int) = u
    · have e2 : (o'.toNat + k) % 6 = s := by rw [show k = u.toNat from by omega, k3]; exact hs
      rw [e2, hn]
      exact ((bkD_fw (show u'.toNat - k = 0 + 1 from by omega)).trans rfl).symm
    · have e2 : (o'.toNat + k) % 6 = (o.toNat + k) % 6 := by rw [k3]
      have z := hq _ (Nat.mod_lt (o.toNat + k) (by decide)) (by omega)
      have y := hr k (by omega) (by omega)
      rw [e2, z, y]
      exact (bkD_fw (show u'.toNat - k = (u.toNat - k) + 1 from by omega)).symm
  · by_cases e : (k : Int) = 5
    · have e2 : (o'.toNat + k) % 6 = s := by omega
      rw [e2, hn]
      exact ((bkD_fw (show u'.toNat - k = 0 + 1 from by omega)).trans rfl).symm
    · have e2 : (o'.toNat + k) % 6 = (o.toNat + (k + 1)) % 6 := by omega
      have z := hq _ (Nat.mod_lt (o.toNat + (k + 1)) (by decide)) (by omega)
      have y := hr (k + 1) (by omega) (by omega)
      rw [e2, z, y]
      exact (bkD_fw (show u'.toNat - k = (u.toNat - (k + 1)) + 1 from by omega)).symm
theorem RGD_last {o u f c : Int} {d : Int32} {q : Nat → Int32} {s : Nat} (hr : RGD o u d q f c) (hu : 1 ≤ u) (hc : c = u) (hs : (o.toNat + (u.toNat - 1)) % 6 = s) : q s = bk1 f d := by
  have z := hr (u.toNat - 1) (by omega) (by omega)
  rw [hs] at z
  exact z.trans (bkD_1 (by omega))
theorem RGD_less {o u f u' c c' : Int} {d d' : Int32} {q : Nat → Int32} (hr : RGD o u d q f c) (hu : u' = u - 1) (hd : d' = bk1 f d) (hc : c = u) : RGD o u' d' q f c' := fun k h1 h2 =>
  (hr k (by omega) (by omega)).trans (bkD_j (by omega) hd)
section NGDs
variable {m i i' u0 u u' o o' f g : Int} {d d' : Int32} {q q' : Nat → Int32} {s : Nat}
theorem NGD_init (hr : RGD o u d q f u) (hu : 0 ≤ u ∧ u ≤ 6) (hi : i = 0) (he : u0 = u) : ∃ c : Int, NGI m i u0 u c ∧ RGD o u d q f c := by
  subst hi he
  by_cases hm : m ≤ 6
  · exact ⟨u0, by unfold NGI; omega, hr⟩
  · exact ⟨0, by unfold NGI; omega, RGD_nil (by omega)⟩
theorem NGD_eq (hr : ∃ c : Int, NGI m i u0 u c ∧ RGD o u (fw1 f d) q f c) (hi : i' = i) (hd : d' = fw1 g d) (hg : g = f) : ∃ c : Int, NGI m i' u0 u c ∧ RGD o u d' q f c := by
  subst hi hg hd
  exact hr
theorem NGD_skip (hr : ∃ c : Int, NGI m i u0 u c ∧ RGD o u d q f c) (hi : 6 < m - i) (h0 : 0 ≤ i) (h' : i' = i + 1) : ∃ c : Int, NGI m i' u0 u c ∧ RGD o u (fw1 f d) q f c := by
  obtain ⟨c, h1, -⟩ := hr
  unfold NGI at h1
  exact ⟨0, by unfold NGI; omega, RGD_nil (by omega)⟩
theorem NGD_keep (hr : ∃ c : Int, NGI m i u0 u c ∧ RGD o u d q f c) (hi : m - i ≤ 6) (him : i < m) (h' : i' = i + 1) (ho : 0 ≤ o ∧ o ≤ 5) (hu : 0 ≤ u ∧ u ≤ 6) (hs : (o.toNat + u.toNat) % 6 = s) (hq : ∀ j : Nat, j < 6 → j ≠ s → q' j = q j) (hn : q' s = d) (hk : (u ≤ 5 ∧ u' = u + 1 ∧ o' = o) ∨ (u = 6 ∧ u' = 6 ∧ (o' = o + 1 ∧ o ≤ 4 ∨ o' = 0 ∧ o = 5))) : ∃ c : Int, NGI m i' u0 u' c ∧ RGD o' u' (fw1 f d) q' f c := by
  obtain ⟨c, h1, h2⟩ := hr
  subst h'
  unfold NGI at h1
  by_cases hc : c + 1 ≤ u'
  · exact ⟨c + 1, by unfold NGI; omega, RGD_keep h2 ho hu hs hq hn (by omega) hk⟩
  · exact ⟨u', by unfold NGI; omega, RGD_keep h2 ho hu hs hq hn (by omega) hk⟩
theorem NGD_fin (hr : ∃ c : Int, NGI m i u0 u c ∧ RGD o u d q f c) (hi : i = m) (hu : u ≤ 6) (h0 : 0 ≤ u0) (hm : 1 ≤ m) : RGD o u d q f u := by
  obtain ⟨c, h1, h2⟩ := hr
  subst hi
  unfold NGI at h1
  have e : c = u := by omega
  subst e
  exact h2
end NGDs
/-- the reference's rows -/
def RKD (u : Int) (d : Int32) (f : Int) (r : Nat → Int32) : Prop := ∀ k : Nat, (k : Int) < u → r (66 * k + 1) = bkD f (u.toNat - k) d
theorem RKD_nil {u f : Int} {d : Int32} {r : Nat → Int32} (h : u ≤ 0) : RKD u d f r := fun k hk => absurd hk (by omega)
theorem RKD_eq {u f u' f' : Int} {d d' : Int32} {r : Nat → Int32} (h : RKD u d f r) (hu : u' = u) (hd : d' = d) (hf : f' = f) : RKD u' d' f' r := by subst hu hd hf; exact h
theorem RKD_less {u f u' f' : Int} {d d' : Int32} {r : Nat → Int32} (h : RKD u d f r) (hu : u' = u - 1) (hd : d' = bk1 f d) (hf : f' = f) : RKD u' d' f' r := fun k hk => by
  subst hf
  exact (h k (by omega)).trans (bkD_j (by omega) hd)
theorem RKD_up {u f f' g : Int} {d d' : Int32} {r : Nat → Int32} (h : ∀ k : Nat, (k : Int) < u → r (66 * k + 1) = bkD f (u.toNat - 1 - k) d) (hd : d' = fw1 g d) (hg : g = f) (hf : f' = f) : RKD u d' f' r := fun k hk => by
  subst hf hg
  rw [h k hk, hd]
  exact (bkD_fw (by omega)).symm
theorem RKD_SH {g r : Nat → Int32} {f a b m : Int} {d : Int32} (h : SH g r m) (hf : RKD a d f r) (hm : 66 * b ≤ m) (hb : a = b + 1) : ∀ k : Nat, (k : Int) < b → g (66 * k + 1) = bkD f (b.toNat - k) d := fun k hk => by
  have q := hf (k + 1) (by omega)
  rw [h.1 (66 * k + 1) (by omega), show 66 + (66 * k + 1) = 66 * (k + 1) + 1 from by omega, q]
  exact bkD_i (by omega)
theorem RKD_KP {g r w : Nat → Int32} {b : Nat} {m a u f : Int} {d : Int32} (h : KP g r w b m) (hf : ∀ k : Nat, (k : Int) < a → r (66 * k + 1) = bkD f (a.toNat - k) d) (hb : (b : Int) = 66 * a) (hm : 66 ≤ m) (hu : u = a + 1) (h0 : 0 ≤ a) (hn : w 1 = d) : ∀ k : Nat, (k : Int) < u → g (66 * k + 1) = bkD f (u.toNat - 1 - k) d := fun k hk => by
  by_cases q : (k : Int) < a
  · rw [h.1 (66 * k + 1) (by omega), hf k q]
    exact bkD_i (by omega)
  · have z := h.2 1 (by omega)
    rw [show 66 * k + 1 = b + 1 from by omega, z, hn]
    exact (bkD_i (show u.toNat - 1 - k = 0 from by omega)).symm
theorem NGD_keepA {m i i' u0 u u' o o' f : Int} {d d0 : Int32} {q q' : Nat → Int32} (hr : ∃ c : Int, NGI m i u0 u c ∧ RGD o u d q f c) (hi : m - i ≤ 6) (him : i < m) (h' : i' = i + 1) (ho : 0 ≤ o ∧ o ≤ 5) (hu : 0 ≤ u ∧ u ≤ 6) (hq : ∃ s : Nat, (o.toNat + u.toNat) % 6 = s ∧ (∀ j : Nat, j < 6 → j ≠ s → q' j = q j) ∧ q' s = d0) (hd : d0 = d) (hk : (u ≤ 5 ∧ u' = u + 1 ∧ o' = o) ∨ (u = 6 ∧ u' = 6 ∧ (o' = o + 1 ∧ o ≤ 4 ∨ o' = 0 ∧ o = 5))) {d' : Int32} (hd' : d' = d) : ∃ c : Int, NGI m i' u0 u' c ∧ RGD o' u' (fw1 f d') q' f c := by
  obtain ⟨s, h1, h2, h3⟩ := hq
  subst hd'
  exact NGD_keep hr hi him h' ho hu h1 h2 (h3.trans hd) hk
