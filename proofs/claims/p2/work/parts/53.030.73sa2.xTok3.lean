/-! tokens -/
abbrev b255 (f : Nat → Int32) : Prop := allR 400 0 255 f
theorem spc_t {c : Int} (h : c = 32 ∨ c = 10) : spcB c = true := by
  unfold spcB; rw [Bool.or_eq_true, decide_eq_true_iff, decide_eq_true_iff]; exact h
theorem spc_f {c : Int} (h : ¬ (c = 32 ∨ c = 10)) : spcB c = false := by
  apply Bool.eq_false_iff.mpr; intro q; unfold spcB at q; rw [Bool.or_eq_true, decide_eq_true_iff, decide_eq_true_iff] at q; exact h q
theorem ltr_t {c : Int} (h : (97 ≤ c ∧ c ≤ 122) ∨ (65 ≤ c ∧ c ≤ 90)) : ltrB c = true := by
  unfold ltrB; rw [Bool.or_eq_true, Bool.and_eq_true, Bool.and_eq_true, decide_eq_true_iff, decide_eq_true_iff, decide_eq_true_iff, decide_eq_true_iff]; exact h
theorem ltr_f {c : Int} (h : ¬ ((97 ≤ c ∧ c ≤ 122) ∨ (65 ≤ c ∧ c ≤ 90))) : ltrB c = false := by
  apply Bool.eq_false_iff.mpr; intro q; unfold ltrB at q; rw [Bool.or_eq_true, Bool.and_eq_true, Bool.and_eq_true, decide_eq_true_iff, decide_eq_true_iff, decide_eq_true_iff, decide_eq_true_iff] at q; exact h q
theorem dgt_t {c : Int} (h : 48 ≤ c ∧ c ≤ 57) : dgtB c = true := by
  unfold dgtB; rw [Bool.and_eq_true, decide_eq_true_iff, decide_eq_true_iff]; exact h
theorem dgt_f {c : Int} (h : ¬ (48 ≤ c ∧ c ≤ 57)) : dgtB c = false := by
  apply Bool.eq_false_iff.mpr; intro q; unfold dgtB at q; rw [Bool.and_eq_true, decide_eq_true_iff, decide_eq_true_iff] at q; exact h q
theorem sgn_f {c : Int} (h : c ≠ 59 ∧ c ≠ 43 ∧ c ≠ 45 ∧ c ≠ 42 ∧ c ≠ 47 ∧ c ≠ 40 ∧ c ≠ 41 ∧ c ≠ 60 ∧ c ≠ 61 ∧ c ≠ 62) : sgnB c = false := by
  apply Bool.eq_false_iff.mpr
  intro q
  have z : c ∈ ([59, 43, 45, 42, 47, 40, 41, 60, 61, 62] : List Int) := List.contains_iff_mem.mp q
  simp only [List.mem_cons, List.not_mem_nil, or_false] at z
  omega
def tkA (t : Nat → Int32) (n p : Int) : Int := rnI spcB t n p
def tkB (t : Nat → Int32) (n a : Int) : Int := if n ≤ a then a else if ltrB (t a.toNat).toInt = true then rnI ltrB t n a else if dgtB (t a.toNat).toInt = true then rnI dgtB t n a else a + 1
def tkC (t : Nat → Int32) (n a b : Int) : Int := if n ≤ a then 0 else if ltrB (t a.toNat).toInt = true then (if wxI t a b WL 0 = -1 then 1 else 2) else if dgtB (t a.toNat).toInt = true then (if b - a < 5 then 3 else 1) else if sgnB (t a.toNat).toInt = true then 4 else 1
def TKR (t : Nat → Int32) (n p fr sp tok val : Int) : Prop := fr = tkA t n p ∧ sp = tkB t n fr ∧ tok = tkC t n fr sp ∧ (tok = 2 → val = wxI t fr sp WL 0) ∧ (tok = 3 → val = decI t fr (sp - fr).toNat) ∧ (tok = 4 → val = (t fr.toNat).toInt)
section TKs
variable {t : Nat → Int32} {n p fr sp tok val : Int}
theorem TKR_end (h : fr = tkA t n p) (hn : n ≤ fr) (hs : sp = fr) (ht : tok = 0) : TKR t n p fr sp tok val := by
  subst hs ht
  refine ⟨h, ?_, ?_, fun q => absurd q (by decide), fun q => absurd q (by decide), fun q => absurd q (by decide)⟩
  · unfold tkB; rw [if_pos hn]
  · unfold tkC; rw [if_pos hn]
theorem tk_c {i c : Int32} (e : c = t i.toNatClampNeg) (h0 : 0 ≤ i.toInt) : (t i.toInt.toNat).toInt = c.toInt := by
  have q := idxI h0
  rw [e, show i.toInt.toNat = i.toNatClampNeg from by omega]
theorem TKR_let {i c : Int32} (h : i.toInt = tkA t n p) (e : c = t i.toNatClampNeg) (h0 : 0 ≤ i.toInt) (hi : i.toInt < n) (hl : ltrB c.toInt = true) (hf : fr = i.toInt) (hs : sp = rnI ltrB t n i.toInt) (hv : val = wxI t i.toInt sp WL 0) (ht : (val = -1 ∧ tok = 1) ∨ (val ≠ -1 ∧ tok = 2)) : TKR t n p fr sp tok val := by
  subst hf
  have hc := tk_c e h0
  refine ⟨h, ?_, ?_, fun _ => hv, fun q => by omega, fun q => by omega⟩
  · unfold tkB; rw [if_neg (by omega), hc, if_pos hl]; exact hs
  · unfold tkC; rw [if_neg (by omega), hc, if_pos hl, ← hv]
    rcases ht with ⟨h1, h2⟩ | ⟨h1, h2⟩
    · rw [if_pos h1]; exact h2
    · rw [if_neg h1]; exact h2
theorem dgt_nl {c : Int} (h : dgtB c = true) : ltrB c = false := by
  unfold dgtB at h; rw [Bool.and_eq_true, decide_eq_true_iff, decide_eq_true_iff] at h
  exact ltr_f (by omega)
theorem TKR_num {i c : Int32} (h : i.toInt = tkA t n p) (e : c = t i.toNatClampNeg) (h0 : 0 ≤ i.toInt) (hi : i.toInt < n) (hd : dgtB c.toInt = true) (hf : fr = i.toInt) (hs : sp = rnI dgtB t n i.toInt) (ht : (sp - i.toInt < 5 ∧ tok = 3 ∧ val = decI t i.toInt (sp - i.toInt).toNat) ∨ (5 ≤ sp - i.toInt ∧ tok = 1)) : TKR t n p fr sp tok val := by
  subst hf
  have hc := tk_c e h0
  have hn : ¬ (ltrB c.toInt = true) := by rw [dgt_nl hd]; decide
  refine ⟨h, ?_, ?_, fun q => by omega, fun q => by omega, fun q => by omega⟩
  · unfold tkB; rw [if_neg (by omega), hc, if_neg hn, if_pos hd]; exact hs
  · unfold tkC; rw [if_neg (by omega), hc, if_neg hn, if_pos hd]
    rcases ht with ⟨h1, h2, -⟩ | ⟨h1, h2⟩
    · rw [if_pos h1]; exact h2
    · rw [if_neg (by omega)]; exact h2
theorem TKR_sgn {i c : Int32} (h : i.toInt = tkA t n p) (e : c = t i.toNatClampNeg) (h0 : 0 ≤ i.toInt) (hi : i.toInt < n) (hl : ltrB c.toInt = false) (hd : dgtB c.toInt = false) (hf : fr = i.toInt) (hs : sp = i.toInt + 1) (ht : (sgnB c.toInt = true ∧ tok = 4 ∧ val = c.toInt) ∨ (sgnB c.toInt = false ∧ tok = 1)) : TKR t n p fr sp tok val := by
  subst hf
  have hc := tk_c e h0
  have h1 : ¬ (ltrB c.toInt = true) := by rw [hl]; decide
  have h2 : ¬ (dgtB c.toInt = true) := by rw [hd]; decide
  refine ⟨h, ?_, ?_, fun q => by omega, fun q => by omega, fun q => by rw [hc]; omega⟩
  · unfold tkB; rw [if_neg (by omega), hc, if_neg h1, if_neg h2]; exact hs
  · unfold tkC; rw [if_neg (by omega), hc, if_neg h1, if_neg h2]
    rcases ht with ⟨g1, g2, -⟩ | ⟨g1, g2⟩
    · rw [if_pos g1]; exact g2
    · rw [if_neg (by rw [g1]; decide)]; exact g2
theorem dec_step {i c : Int32} {a v v' : Int} {k k' : Nat} (h : v = decI t a k) (e : c = t i.toNatClampNeg) (h0 : 0 ≤ i.toInt) (hi : i.toInt = a + (k : Int)) (hv : v' = 10 * v + c.toInt - 48) (hk : k' = k + 1) : v' = decI t a k' := by
  subst hk
  have q := idxI h0
  show v' = 10 * decI t a k + (t (a + (k : Int)).toNat).toInt - 48
  rw [← h, show (a + (k : Int)).toNat = i.toNatClampNeg from by omega, ← e]
  exact hv
end TKs
def DVI (t : Nat → Int32) (a s v : Int) : Prop := s - a ≤ 4 → (v = decI t a (s - a).toNat ∧ v < (10 : Int) ^ (s - a).toNat)
theorem DVI_one {t : Nat → Int32} {i c : Int32} {a s v : Int} (e : c = t i.toNatClampNeg) (h0 : 0 ≤ i.toInt) (hi : i.toInt = a) (hs : s = a + 1) (hd : 48 ≤ c.toInt ∧ c.toInt ≤ 57) (hv : v = c.toInt - 48) : DVI t a s v := by
  intro _
  have q := idxI h0
  rw [show (s - a).toNat = 1 from by omega]
  refine ⟨dec_step (v := 0) (k := 0) rfl e h0 (by omega) (by omega) rfl, ?_⟩
  rw [show (10 : Int) ^ 1 = 10 from by decide]; omega
theorem DVI_step {t : Nat → Int32} {i c : Int32} {a s s' v v' : Int} (h : DVI t a s v) (e : c = t i.toNatClampNeg) (h0 : 0 ≤ i.toInt) (hi : i.toInt = s) (ha : a < s) (hs : s' = s + 1) (hd : 48 ≤ c.toInt ∧ c.toInt ≤ 57) (hv : v' = 10 * v + c.toInt - 48) : DVI t a s' v' := by
  intro h4
  obtain ⟨k1, k2⟩ := h (by omega)
  have p1 : (10 : Int) ^ 1 = 10 := by decide
  have p2 : (10 : Int) ^ 2 = 100 := by decide
  have p3 : (10 : Int) ^ 3 = 1000 := by decide
  have p4 : (10 : Int) ^ 4 = 10000 := by decide
  refine ⟨dec_step (k := (s - a).toNat) k1 e h0 (by omega) hv (by omega), ?_⟩
  rcases (show (s - a).toNat = 1 ∨ (s - a).toNat = 2 ∨ (s - a).toNat = 3 from by omega) with z | z | z
  · rw [z, p1] at k2; rw [show (s' - a).toNat = 2 from by omega, p2]; omega
  · rw [z, p2] at k2; rw [show (s' - a).toNat = 3 from by omega, p3]; omega
  · rw [z, p3] at k2; rw [show (s' - a).toNat = 4 from by omega, p4]; omega
theorem DVI_far {t : Nat → Int32} {a s s' v : Int} (h : DVI t a s v) (ha : a < s) (hv : 10000 ≤ v) (hs : s' = s + 1) : DVI t a s' v := by
  intro h4
  obtain ⟨-, k2⟩ := h (by omega)
  have p1 : (10 : Int) ^ 1 = 10 := by decide
  have p2 : (10 : Int) ^ 2 = 100 := by decide
  have p3 : (10 : Int) ^ 3 = 1000 := by decide
  rcases (show (s - a).toNat = 1 ∨ (s - a).toNat = 2 ∨ (s - a).toNat = 3 from by omega) with z | z | z
  · rw [z, p1] at k2; omega
  · rw [z, p2] at k2; omega
  · rw [z, p3] at k2; omega
