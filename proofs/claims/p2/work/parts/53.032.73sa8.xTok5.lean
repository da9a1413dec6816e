/-! the class's tokens -/
theorem DVI_0 {t : Nat → Int32} {a s v : Int} (hs : s = a) (hv : v = 0) : DVI t a s v := by
  intro _
  rw [show (s - a).toNat = 0 from by omega, hv]
  exact ⟨rfl, by decide⟩
theorem DVI_b {t : Nat → Int32} {a s v : Int} (h : DVI t a s v) (h0 : a ≤ s) (hs : s - a ≤ 3) : v ≤ 999 := by
  obtain ⟨-, k⟩ := h (by omega)
  have p0 : (10 : Int) ^ 0 = 1 := by decide
  have p1 : (10 : Int) ^ 1 = 10 := by decide
  have p2 : (10 : Int) ^ 2 = 100 := by decide
  have p3 : (10 : Int) ^ 3 = 1000 := by decide
  rcases (show (s - a).toNat = 0 ∨ (s - a).toNat = 1 ∨ (s - a).toNat = 2 ∨ (s - a).toNat = 3 from by omega) with z | z | z | z
  · rw [z, p0] at k; omega
  · rw [z, p1] at k; omega
  · rw [z, p2] at k; omega
  · rw [z, p3] at k; omega
theorem DVI_st {t : Nat → Int32} {i c : Int32} {a s s' v v' : Int} (h : DVI t a s v) (e : c = t i.toNatClampNeg) (h0 : 0 ≤ i.toInt) (hi : i.toInt = s) (ha : a ≤ s) (hs : s' = s + 1) (hd : 48 ≤ c.toInt ∧ c.toInt ≤ 57) (hv : v' = 10 * v + c.toInt - 48) : DVI t a s' v' := by
  intro h4
  obtain ⟨k1, k2⟩ := h (by omega)
  have p0 : (10 : Int) ^ 0 = 1 := by decide
  have p1 : (10 : Int) ^ 1 = 10 := by decide
  have p2 : (10 : Int) ^ 2 = 100 := by decide
  have p3 : (10 : Int) ^ 3 = 1000 := by decide
  have p4 : (10 : Int) ^ 4 = 10000 := by decide
  refine ⟨dec_step (k := (s - a).toNat) k1 e h0 (by omega) hv (by omega), ?_⟩
  rcases (show (s - a).toNat = 0 ∨ (s - a).toNat = 1 ∨ (s - a).toNat = 2 ∨ (s - a).toNat = 3 from by omega) with z | z | z | z
  · rw [z, p0] at k2; rw [show (s' - a).toNat = 1 from by omega, p1]; omega
  · rw [z, p1] at k2; rw [show (s' - a).toNat = 2 from by omega, p2]; omega
  · rw [z, p2] at k2; rw [show (s' - a).toNat = 3 from by omega, p3]; omega
  · rw [z, p3] at k2; rw [show (s' - a).toNat = 4 from by omega, p4]; omega
theorem DVI_no {t : Nat → Int32} {a s v : Int} (h : 5 ≤ s - a) : DVI t a s v := fun q => absurd q (by omega)
def RNF (t : Nat → Int32) (n a at' kd vl : Int) : Prop := at' = rnI dgtB t n a ∧ ((at' - a ≤ 4 ∧ kd = 1 ∧ vl = decI t a (at' - a).toNat) ∨ (5 ≤ at' - a ∧ kd = 2))
def tkK (w : Nat) (t : Nat → Int32) (n a b : Int) : Int := if n ≤ a then 0 else if ltrB (t a.toNat).toInt = true then (if scnI t a b (sTx w) 0 a true = -1 then 2 else 256 + scnI t a b (sTx w) 0 a true) else if dgtB (t a.toNat).toInt = true then (if b - a ≤ 4 then 1 else 2) else if sgnB (t a.toNat).toInt = true then (t a.toNat).toInt else 2
def TKS (w : Nat) (t : Nat → Int32) (n p pl at' kd vl : Int) : Prop := pl = tkA t n p ∧ at' = tkB t n pl ∧ kd = tkK w t n pl at' ∧ (kd = 1 → vl = decI t pl (at' - pl).toNat)
section TSs
variable {w : Nat} {t : Nat → Int32} {n p pl at' kd vl : Int}
theorem TKS_end (h : pl = tkA t n p) (hn : n ≤ pl) (hs : at' = pl) (ht : kd = 0) : TKS w t n p pl at' kd vl := by
  subst hs ht
  refine ⟨h, ?_, ?_, fun q => absurd q (by decide)⟩
  · unfold tkB; rw [if_pos hn]
  · unfold tkK; rw [if_pos hn]
theorem TKS_let {i c : Int32} {x : Int} (h : i.toInt = tkA t n p) (e : c = t i.toNatClampNeg) (h0 : 0 ≤ i.toInt) (hi : i.toInt < n) (hl : ltrB c.toInt = true) (hf : pl = i.toInt) (hs : at' = rnI ltrB t n i.toInt) (hx : x = scnI t i.toInt at' (sTx w) 0 i.toInt true) (hb : -1 ≤ x) (ht : (x = -1 ∧ kd = 2) ∨ (x ≠ -1 ∧ kd = 256 + x)) : TKS w t n p pl at' kd vl := by
  subst hf
  have hc := tk_c e h0
  refine ⟨h, ?_, ?_, fun q => by omega⟩
  · unfold tkB; rw [if_neg (by omega), hc, if_pos hl]; exact hs
  · unfold tkK; rw [if_neg (by omega), hc, if_pos hl, ← hx]
    rcases ht with ⟨h1, h2⟩ | ⟨h1, h2⟩
    · rw [if_pos h1]; exact h2
    · rw [if_neg h1]; exact h2
theorem TKS_num {i c : Int32} (h : i.toInt = tkA t n p) (e : c = t i.toNatClampNeg) (h0 : 0 ≤ i.toInt) (hi : i.toInt < n) (hd : dgtB c.toInt = true) (hf : pl = i.toInt) (hr : RNF t n i.toInt at' kd vl) : TKS w t n p pl at' kd vl := by
  subst hf
  have hc := tk_c e h0
  have hn : ¬ (ltrB c.toInt = true) := by rw [dgt_nl hd]; decide
  obtain ⟨hs, ht⟩ := hr
  refine ⟨h, ?_, ?_, fun q => by omega⟩
  · unfold tkB; rw [if_neg (by omega), hc, if_neg hn, if_pos hd]; exact hs
  · unfold tkK; rw [if_neg (by omega), hc, if_neg hn, if_pos hd]
    rcases ht with ⟨h1, h2, -⟩ | ⟨h1, h2⟩
    · rw [if_pos h1]; exact h2
    · rw [if_neg (by omega)]; exact h2
theorem TKS_sgn {i c : Int32} (h : i.toInt = tkA t n p) (e : c = t i.toNatClampNeg) (h0 : 0 ≤ i.toInt) (hi : i.toInt < n) (hl : ltrB c.toInt = false) (hd : dgtB c.toInt = false) (hf : pl = i.toInt) (hs : at' = i.toInt + 1) (ht : (sgnB c.toInt = true ∧ kd = c.toInt) ∨ (sgnB c.toInt = false ∧ kd = 2)) : TKS w t n p pl at' kd vl := by
  subst hf
  have hc := tk_c e h0
  have h1 : ¬ (ltrB c.toInt = true) := by rw [hl]; decide
  have h2 : ¬ (dgtB c.toInt = true) := by rw [hd]; decide
  have h3 : kd ≠ 1 := by
    rcases ht with ⟨g1, g2⟩ | ⟨-, g2⟩
    · intro z; rw [← g2, z] at g1; revert g1; decide +kernel
    · omega
  refine ⟨h, ?_, ?_, fun q => absurd q h3⟩
  · unfold tkB; rw [if_neg (by omega), hc, if_neg h1, if_neg h2]; exact hs
  · unfold tkK; rw [if_neg (by omega), hc, if_neg h1, if_neg h2]
    rcases ht with ⟨g1, g2⟩ | ⟨g1, g2⟩
    · rw [if_pos g1]; exact g2
    · rw [if_neg (by rw [g1]; decide)]; exact g2
end TSs
