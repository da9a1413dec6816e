/-! a method of a part of the class, as a method of the whole: consequence, frame, whole worlds -/
section K7s
variable {m : K7} {T : N7} {sz sz' ng ng' un un' ol ol' lp lp' rz rz' hc hc' : Int} {tx tx' rs rs' : Nat → Int32} {q q' l l' : Nat → Int}
end K7s
abbrev K2 := Int32 × Int × Int32 × Int
abbrev N2 := N7 × K2
noncomputable def cIfD (c : Prop) (a b : Int32) : Int32 := @ite _ c (Classical.propDecidable c) a b
theorem cIfD_t {c : Prop} {a b : Int32} (h : c) : cIfD c a b = a := if_pos h
theorem cIfD_f {c : Prop} {a b : Int32} (h : ¬ c) : cIfD c a b = b := if_neg h
def T2s (T : N2) (v : Int32) : N2 := (T7s T.1, (v, T.2.2))
def V2 (T : N2) : Int32 := T.2.1
noncomputable def T2h (T : N2) (w : Int32) (pe oi : Int) : N2 := (T7h T.1 w pe oi, T.2)
noncomputable def T2set (T : N2) (what who v : Int) : N2 := (T7set T.1 what who v, (T.2.1, cIf (SETC T.1.1.1.1.toInt what who v ∧ what = 1) v T.2.2.1, T.2.2.2))
noncomputable def T2fr (T : N2) (a b : Int) : N2 := (T7fr T.1 a b, T.2)
noncomputable def T2n (T : N2) (k : Int) : N2 := (T7n T.1 k, (cIfD (NGC T.1.1.1.1.toInt T.1.2.2.2.1 k) (fwD T.2.2.1 T.2.1 k.toNat) T.2.1, T.2.2))
def T2u (T : N2) : N2 := (T7u T.1, (if T.1.2.2.2.2.1 = 0 then T.2.1 else bk1 T.2.2.1 T.2.1, T.2.2))
def T2f (T : N2) (a b c d e : Int32) : N2 := (T7f T.1 a b c d e, T.2)
def T2e (T : N2) (k : Int) : N2 := (T7e T.1 k, T.2)
def T2x (T : N2) (k : Int) : N2 := (T7x T.1 k, T.2)
noncomputable def T2c (T : N2) (ni se : Int) : N2 := (T7c T.1 ni se, T.2)
def E2i1 (T : N2) : K2 := (T.2.1, T.2.2.1, T.2.1, T.2.2.1)
def E2i0 (T : N2) : K2 := match T.1.1.2 with
  | none => T.2
  | some _ => (T.2.2.2.1, T.2.2.2.2, T.2.2.2.1, T.2.2.2.2)
def T2i (T : N2) (z : Int) : N2 := (T7i T.1 z, if z = 1 then E2i1 T else E2i0 T)
theorem T2i_1 {T : N2} {z : Int} (h : z = 1) : (T2i T z).2 = E2i1 T := if_pos h
theorem T2i_0 {T : N2} {z : Int} (h : z = 0) : (T2i T z).2 = E2i0 T := if_neg (by omega)
def IF_D2 (mi : Nat → Int32) (mf : Nat → Nat → Int32) : Prop := (0 ≤ (mi 2).toInt ∧ (mi 2).toInt ≤ 5) ∧ (0 ≤ (mi 3).toInt ∧ (mi 3).toInt ≤ 6) ∧ (0 ≤ (mi 6).toInt ∧ (mi 6).toInt ≤ 1000) ∧ (0 ≤ (mi 8).toInt ∧ (mi 8).toInt ≤ 99) ∧ (-1 ≤ (mi 21).toInt ∧ (mi 21).toInt ≤ 9) ∧ (0 ≤ (mi 22).toInt ∧ (mi 22).toInt ≤ 9999) ∧ (0 ≤ (mi 25).toInt ∧ (mi 25).toInt ≤ 200) ∧ (0 ≤ (mi 33).toInt ∧ (mi 33).toInt ≤ 10) ∧ (0 ≤ (mi 41).toInt ∧ (mi 41).toInt ≤ 40) ∧ (0 ≤ (mi 50).toInt ∧ (mi 50).toInt ≤ 10) ∧ (0 ≤ (mi 73).toInt ∧ (mi 73).toInt ≤ 200) ∧ (0 ≤ (mi 80).toInt ∧ (mi 80).toInt ≤ 8) ∧ (0 ≤ (mi 83).toInt ∧ (mi 83).toInt ≤ 400) ∧ (0 ≤ (mi 84).toInt ∧ (mi 84).toInt ≤ 6) ∧ (0 ≤ (mi 89).toInt ∧ (mi 89).toInt ≤ 4) ∧ (-1 ≤ (mi 142).toInt ∧ (mi 142).toInt ≤ 9) ∧ (0 ≤ (mi 143).toInt ∧ (mi 143).toInt ≤ 9999) ∧ (0 ≤ (mi 146).toInt ∧ (mi 146).toInt ≤ 200) ∧ (-1 ≤ (mi 155).toInt ∧ (mi 155).toInt ≤ 9) ∧ (0 ≤ (mi 156).toInt ∧ (mi 156).toInt ≤ 9999) ∧ (0 ≤ (mi 159).toInt ∧ (mi 159).toInt ≤ 200) ∧ (-1 ≤ (mi 168).toInt ∧ (mi 168).toInt ≤ 9) ∧ (0 ≤ (mi 169).toInt ∧ (mi 169).toInt ≤ 9999) ∧ (0 ≤ (mi 172).toInt ∧ (mi 172).toInt ≤ 200) ∧ (-1 ≤ (mi 181).toInt ∧ (mi 181).toInt ≤ 9) ∧ (0 ≤ (mi 182).toInt ∧ (mi 182).toInt ≤ 9999) ∧ (0 ≤ (mi 185).toInt ∧ (mi 185).toInt ≤ 200) ∧ (-1 ≤ (mi 194).toInt ∧ (mi 194).toInt ≤ 9) ∧ (0 ≤ (mi 195).toInt ∧ (mi 195).toInt ≤ 9999) ∧ (0 ≤ (mi 198).toInt ∧ (mi 198).toInt ≤ 200) ∧ (-1 ≤ (mi 207).toInt ∧ (mi 207).toInt ≤ 9) ∧ (0 ≤ (mi 208).toInt ∧ (mi 208).toInt ≤ 9999) ∧ (0 ≤ (mi 211).toInt ∧ (mi 211).toInt ≤ 200) ∧ (0 ≤ (mi 230).toInt ∧ (mi 230).toInt ≤ 1000) ∧ (0 ≤ (mi 232).toInt ∧ (mi 232).toInt ≤ 99) ∧ (-1 ≤ (mi 245).toInt ∧ (mi 245).toInt ≤ 9) ∧ (0 ≤ (mi 246).toInt ∧ (mi 246).toInt ≤ 9999) ∧ (0 ≤ (mi 249).toInt ∧ (mi 249).toInt ≤ 200) ∧ (0 ≤ (mi 257).toInt ∧ (mi 257).toInt ≤ 10) ∧ (0 ≤ (mi 265).toInt ∧ (mi 265).toInt ≤ 40) ∧ (0 ≤ (mi 274).toInt ∧ (mi 274).toInt ≤ 10) ∧ (0 ≤ (mi 297).toInt ∧ (mi 297).toInt ≤ 200) ∧ (0 ≤ (mi 304).toInt ∧ (mi 304).toInt ≤ 8) ∧ p9 (mf 37) ∧ p9 (mf 38) ∧ l99 (mf 39) ∧ mdg (mf 42) ∧ m4 (mf 54) ∧ m4 (mf 64) ∧ b255 (mf 82) ∧ m4 (mf 94) ∧ p9 (mf 102) ∧ p9 (mf 103) ∧ l99 (mf 104) ∧ w9 (mf 224) ∧ s1k (mf 226) ∧ s1k (mf 227) ∧ p9 (mf 261) ∧ p9 (mf 262) ∧ l99 (mf 263) ∧ mdg (mf 266) ∧ m4 (mf 278) ∧ m4 (mf 288)
section KCs
variable {T : KT} {bK : Bool} {mi mi' : Nat → Int32} {mf mf' : Nat → Nat → Int32}
end KCs
section K7Cs
variable {m m' : K7} {bK : Bool} {mi mi' : Nat → Int32} {mf mf' : Nat → Nat → Int32}
end K7Cs
def K2D (mi : Nat → Int32) : Nat → Int32 := rd6 (mi 145) (mi 158) (mi 171) (mi 184) (mi 197) (mi 210)
def K2C (e : K2) (bK : Bool) (mi : Nat → Int32) : Prop := (mi 24 = e.1 ∧ (mi 6).toInt = e.2.1 ∧ RGD (mi 2).toInt (mi 3).toInt (mi 24) (K2D mi) (mi 6).toInt (mi 3).toInt) ∧ (bK = true → mi 248 = e.2.2.1 ∧ (mi 230).toInt = e.2.2.2)
section K2Cs
variable {e : K2} {T : N2} {bK : Bool} {mi mi' : Nat → Int32} {mf mf' : Nat → Nat → Int32}
theorem K2C_eq (h : K2C e bK mi) (e1 : mi' 24 = mi 24) (e2 : mi' 6 = mi 6) (e3 : mi' 2 = mi 2) (e4 : mi' 3 = mi 3) (e5 : K2D mi' = K2D mi) (e6 : mi' 248 = mi 248) (e7 : mi' 230 = mi 230) : K2C e bK mi' := by
  unfold K2C at h ⊢
  rw [e1, e2, e3, e4, e5, e6, e7]
  exact h
/-- nothing can be undone then -/
theorem K2C_u0 {d : Int32} {f : Int} (h : K2C e bK mi) (hd : mi' 24 = d) (hf : (mi' 6).toInt = f) (hu : (mi' 3).toInt = 0) (e6 : mi' 248 = mi 248) (e7 : mi' 230 = mi 230) : K2C (d, f, e.2.2) bK mi' := by
  refine ⟨⟨hd, hf, RGD_0 (by omega)⟩, fun hb => ?_⟩
  rw [e6, e7]
  exact h.2 hb
theorem K2C_or (h : K2C e bK mi) (hu : (mi' 3).toInt = 0 ∨ ((mi' 3).toInt = (mi 3).toInt ∧ (mi' 2).toInt = (mi 2).toInt)) (e1 : mi' 24 = mi 24) (e2 : mi' 6 = mi 6) (e5 : K2D mi' = K2D mi) (e6 : mi' 248 = mi 248) (e7 : mi' 230 = mi 230) : K2C e bK mi' := by
  obtain ⟨⟨h1, h2, h3⟩, hk⟩ := h
  rcases hu with c | ⟨c, c2⟩
  · exact ⟨⟨e1.trans h1, by rw [e2]; exact h2, RGD_0 (by omega)⟩, by rw [e6, e7]; exact hk⟩
  · exact ⟨⟨e1.trans h1, by rw [e2]; exact h2, by rw [e1, e2, e5, c, c2]; exact h3⟩, by rw [e6, e7]; exact hk⟩
theorem K2C_set {w ho v : Int} {r : Int32} (h : K2C T.2 bK mi) (hh : (mi 33).toInt = T.1.1.1.1.toInt) (hs : (SETC (mi 33).toInt w ho v ∧ r = 1 ∧ (mi' 3).toInt = 0) ∨ (¬ SETC (mi 33).toInt w ho v ∧ r = 0 ∧ (mi' 3).toInt = (mi 3).toInt ∧ (mi' 2).toInt = (mi 2).toInt)) (hf : (r = 1 ∧ ((w = 1 ∧ (mi' 6).toInt = v) ∨ (w ≠ 1 ∧ (mi' 6).toInt = (mi 6).toInt))) ∨ (r = 0 ∧ (mi' 6).toInt = (mi 6).toInt)) (e1 : mi' 24 = mi 24) (e5 : K2D mi' = K2D mi) (e6 : mi' 248 = mi 248) (e7 : mi' 230 = mi 230) : K2C (T2set T w ho v).2 bK mi' := by
  have h10 : (1 : Int32) ≠ 0 := by decide +kernel
  unfold T2set
  rw [hh] at hs
  rcases hs with ⟨c, c1, c2⟩ | ⟨c, c1, c2, c3⟩
  · rcases hf with ⟨-, ⟨f1, f2⟩ | ⟨f1, f2⟩⟩ | ⟨f0, -⟩
    · rw [cIf_t ⟨c, f1⟩]
      exact K2C_u0 h (e1.trans h.1.1) f2 c2 e6 e7
    · rw [cIf_f (fun z => f1 z.2)]
      exact K2C_u0 h (e1.trans h.1.1) (f2.trans h.1.2.1) c2 e6 e7
    · exact absurd (c1.symm.trans f0) h10
  · rw [cIf_f (fun z => c z.1)]
    rcases hf with ⟨f0, -⟩ | ⟨-, f2⟩
    · exact absurd (f0.symm.trans c1) h10
    · exact K2C_or h (Or.inr ⟨c2, c3⟩) e1 (Int32.toInt_inj.mp f2) e5 e6 e7
theorem K2C_n {k : Int} {r : Int32} (h : K2C T.2 bK mi) (hh : (mi 33).toInt = T.1.1.1.1.toInt) (hg : (mi 22).toInt = T.1.2.2.2.1) (hc : (NGC (mi 33).toInt (mi 22).toInt k ∧ r.toInt ≠ -1) ∨ (¬ NGC (mi 33).toInt (mi 22).toInt k ∧ r.toInt = -1 ∧ (mi' 3).toInt = (mi 3).toInt ∧ (mi' 2).toInt = (mi 2).toInt)) (hd : (r.toInt ≠ -1 ∧ mi' 24 = fwD (mi 6).toInt (mi 24) k.toNat ∧ RGD (mi' 2).toInt (mi' 3).toInt (mi' 24) (K2D mi') (mi 6).toInt (mi' 3).toInt) ∨ (r.toInt = -1 ∧ mi' 24 = mi 24 ∧ K2D mi' = K2D mi)) (e2 : mi' 6 = mi 6) (e6 : mi' 248 = mi 248) (e7 : mi' 230 = mi 230) : K2C (T2n T k).2 bK mi' := by
  unfold T2n
  rw [← hh, ← hg]
  rcases hc with ⟨c, c1⟩ | ⟨c, c1, c2, c3⟩
  · rw [cIfD_t c]
    rcases hd with ⟨-, d1, d2⟩ | ⟨d0, -⟩
    · refine ⟨⟨?_, by rw [e2]; exact h.1.2.1, by rw [e2]; exact d2⟩, by rw [e6, e7]; exact h.2⟩
      rw [d1, h.1.1, h.1.2.1]
    · exact absurd d0 c1
  · rw [cIfD_f c]
    rcases hd with ⟨d0, -⟩ | ⟨-, d1, d2⟩
    · exact absurd c1 d0
    · exact K2C_or h (Or.inr ⟨c2, c3⟩) d1 e2 d2 e6 e7
theorem K2C_undo {r : Int32} (h : K2C T.2 bK mi) (hun : (mi 3).toInt = T.1.2.2.2.2.1) (hc : (1 ≤ (mi 3).toInt ∧ r = 1 ∧ (mi' 3).toInt = (mi 3).toInt - 1) ∨ ((mi 3).toInt = 0 ∧ r = 0 ∧ (mi' 3).toInt = (mi 3).toInt)) (hd : (r = 1 ∧ mi' 24 = bk1 (mi 6).toInt (mi 24)) ∨ (r = 0 ∧ mi' 24 = mi 24)) (e2 : mi' 6 = mi 6) (e3 : mi' 2 = mi 2) (e5 : K2D mi' = K2D mi) (e6 : mi' 248 = mi 248) (e7 : mi' 230 = mi 230) : K2C (T2u T).2 bK mi' := by
  have h10 : (1 : Int32) ≠ 0 := by decide +kernel
  unfold T2u
  rw [← hun]
  rcases hc with ⟨c, c1, c2⟩ | ⟨c, c1, c2⟩
  · rw [if_neg (by omega)]
    rcases hd with ⟨-, d1⟩ | ⟨d0, -⟩
    · refine ⟨⟨?_, by rw [e2]; exact h.1.2.1, ?_⟩, by rw [e6, e7]; exact h.2⟩
      · rw [d1, h.1.1, h.1.2.1]
      · rw [e2, e3, e5]
        exact RGD_less h.1.2.2 c2 d1 rfl
    · exact absurd (c1.symm.trans d0) h10
  · rw [if_pos c]
    rcases hd with ⟨d0, -⟩ | ⟨-, d1⟩
    · exact absurd (d0.symm.trans c1) h10
    · exact K2C_or h (Or.inr ⟨c2, congrArg Int32.toInt e3⟩) d1 e2 e5 e6 e7
theorem K2C_take (h : K2C T.2 bK mi) (e1 : mi' 24 = mi 24) (e2 : mi' 6 = mi 6) (e3 : mi' 2 = mi 2) (e4 : mi' 3 = mi 3) (e5 : K2D mi' = K2D mi) (k1 : (mi' 248).toInt = (mi 24).toInt) (k2 : (mi' 230).toInt = (mi 6).toInt) : K2C (E2i1 T) true mi' := by
  obtain ⟨⟨h1, h2, h3⟩, -⟩ := h
  refine ⟨⟨e1.trans h1, by rw [e2]; exact h2, by rw [e1, e2, e3, e4, e5]; exact h3⟩, fun _ => ⟨(Int32.toInt_inj.mp k1).trans h1, k2.trans h2⟩⟩
theorem K2C_give (h : K2C T.2 true mi) (hc : KC T.1.1 true mi mf) (hu : (mi' 3).toInt = 0) (k1 : (mi' 24).toInt = (mi 248).toInt) (k2 : (mi' 6).toInt = (mi 230).toInt) (e6 : mi' 248 = mi 248) (e7 : mi' 230 = mi 230) : K2C (E2i0 T) true mi' := by
  obtain ⟨-, hk⟩ := h
  obtain ⟨g1, g2⟩ := hk rfl
  have e : E2i0 T = (T.2.2.2.1, T.2.2.2.2, T.2.2.2.1, T.2.2.2.2) := by
    obtain ⟨-, ⟨q, -⟩ | ⟨t, -, ht, -⟩⟩ := hc
    · cases q
    · unfold E2i0; rw [ht]
  rw [e]
  refine ⟨⟨(Int32.toInt_inj.mp k1).trans g1, k2.trans g2, RGD_0 (by omega)⟩, fun _ => ?_⟩
  rw [e6, e7]
  exact ⟨g1, g2⟩
theorem K2C_none (h : K2C T.2 false mi) (hc : KC T.1.1 false mi mf) (e1 : mi' 24 = mi 24) (e2 : mi' 6 = mi 6) (e3 : mi' 2 = mi 2) (e4 : mi' 3 = mi 3) (e5 : K2D mi' = K2D mi) : K2C (E2i0 T) false mi' := by
  have e : E2i0 T = T.2 := by
    obtain ⟨-, ⟨-, q⟩ | ⟨t, ht, -, -⟩⟩ := hc
    · unfold E2i0; rw [q]
    · cases ht
  rw [e]
  refine ⟨?_, fun z => by cases z⟩
  rw [e1, e2, e3, e4, e5]
  exact h.1
end K2Cs
def CW_D2 (cI cJ cN : ClassId) (ad : Nat → Nat) (n : N2) (a : Nat) (ws : va_W) : Prop := ∃ (bP bR bK : Bool) (mr : Nat → Nat) (mi : Nat → Int32) (mf : Nat → Nat → Int32) (mg : Nat → Nat → Int64), ws = WB cI cJ cN ad bP bR bK mr mi mf mg ∧ mr 0 = a ∧ ((KC n.1.1 bK mi mf ∧ K7C n.1.2 bK mi mf) ∧ K2C n.2 bK mi) ∧ IF_D2 mi mf
