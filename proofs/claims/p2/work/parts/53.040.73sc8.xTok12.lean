/-! lines, as the reference reads them -/
def rdR (t : Nat → Int32) (n : Int) (P : Int → Except (Int × Int) Int) (g most : Int) : Nat → Int → Int → Except (Int × Int) Int
  | 0, c, _ => .ok c
  | k + 1, c, p => if ctOf t n p = 2 ∧ wdOf t n p = g then (if c = most then .error (3, tkA t n p) else match P (nxtI t n p) with
      | .error e => .error e
      | .ok p' => rdR t n P g most k (c + 1) p') else if ctOf t n p = 0 then .ok c else .error (1, tkA t n p)
def RC (s : Except (Int × Int) Int) (r rf rp : Int) : Prop := match s with
  | .ok c => r = c ∧ 0 ≤ r
  | .error e => r = -1 ∧ rf = e.1 ∧ rp = e.2
def RLR (t : Nat → Int32) (n : Int) (P : Int → Except (Int × Int) Int) (g most fr0 sp0 tok0 val0 c fr sp tok val : Int) : Prop := ∀ p0 : Int, TKR t n p0 fr0 sp0 tok0 val0 → ∃ p : Int, TKR t n p fr sp tok val ∧ rdR t n P g most (most + 1 - c).toNat c p = rdR t n P g most (most + 1).toNat 0 p0
section RLs
variable {t : Nat → Int32} {n : Int} {P : Int → Except (Int × Int) Int} {g most fr0 sp0 tok0 val0 c c' fr sp tok val fr1 sp1 tok1 val1 fr2 sp2 tok2 val2 r r2 rf rp : Int}
theorem RLR_init (hc : c = 0) : RLR t n P g most fr0 sp0 tok0 val0 c fr0 sp0 tok0 val0 := by
  subst hc
  exact fun p0 h => ⟨p0, h, by rw [show most + 1 - 0 = most + 1 from by omega]⟩
theorem rdR_one {p : Int} (hc : c ≤ most) : rdR t n P g most (most + 1 - c).toNat c p = if ctOf t n p = 2 ∧ wdOf t n p = g then (if c = most then .error (3, tkA t n p) else match P (nxtI t n p) with
      | .error e => .error e
      | .ok p' => rdR t n P g most (most + 1 - (c + 1)).toNat (c + 1) p') else if ctOf t n p = 0 then .ok c else .error (1, tkA t n p) := by
  rw [show (most + 1 - c).toNat = (most + 1 - (c + 1)).toNat + 1 from by omega]
  rfl
theorem RLR_many (h : RLR t n P g most fr0 sp0 tok0 val0 c fr sp tok val) (h1 : tok = 2) (h2 : val = g) (hc : c = most) (hr : r = -1) (hf : rf = 3) (hp : rp = fr) : ∀ p0 : Int, TKR t n p0 fr0 sp0 tok0 val0 → RC (rdR t n P g most (most + 1).toNat 0 p0) r rf rp := by
  intro p0 h0
  obtain ⟨p, q1, q2⟩ := h p0 h0
  obtain ⟨k1, -, k3, k4, -, -⟩ := TKR_kd q1
  rw [← q2, rdR_one (by omega), if_pos ⟨k1.symm.trans h1, (k4 h1).symm.trans h2⟩, if_pos hc]
  exact ⟨hr, hf, hp.trans k3⟩
theorem RLR_end (h : RLR t n P g most fr0 sp0 tok0 val0 c fr sp tok val) (h1 : tok = 0) (hc : c ≤ most) (hr : r = c) (h00 : 0 ≤ r) : ∀ p0 : Int, TKR t n p0 fr0 sp0 tok0 val0 → RC (rdR t n P g most (most + 1).toNat 0 p0) r rf rp := by
  intro p0 h0
  obtain ⟨p, q1, q2⟩ := h p0 h0
  obtain ⟨k1, -, -, -, -, -⟩ := TKR_kd q1
  rw [← q2, rdR_one hc, if_neg (fun z => by have y := z.1; omega), if_pos (k1.symm.trans h1)]
  exact ⟨hr, h00⟩
theorem RLR_bad (h : RLR t n P g most fr0 sp0 tok0 val0 c fr sp tok val) (h1 : ¬ (tok = 2 ∧ val = g)) (h2 : tok ≠ 0) (hc : c ≤ most) (hr : r = -1) (hf : rf = 1) (hp : rp = fr) : ∀ p0 : Int, TKR t n p0 fr0 sp0 tok0 val0 → RC (rdR t n P g most (most + 1).toNat 0 p0) r rf rp := by
  intro p0 h0
  obtain ⟨p, q1, q2⟩ := h p0 h0
  obtain ⟨k1, -, k3, k4, -, -⟩ := TKR_kd q1
  rw [← q2, rdR_one hc, if_neg (fun z => h1 ⟨k1.trans z.1, (k4 (k1.trans z.1)).trans z.2⟩), if_neg (fun z => h2 (k1.trans z))]
  exact ⟨hr, hf, hp.trans k3⟩
theorem RLR_err (h : RLR t n P g most fr0 sp0 tok0 val0 c fr sp tok val) (h1 : tok = 2) (h2 : val = g) (hc : c < most) (ht : TKR t n sp fr1 sp1 tok1 val1) (hP : ∀ p : Int, TKR t n p fr1 sp1 tok1 val1 → RX t n (P p) r2 rf rp fr2 sp2 tok2 val2) (h3 : r2 = -1) (hr : r = -1) : ∀ p0 : Int, TKR t n p0 fr0 sp0 tok0 val0 → RC (rdR t n P g most (most + 1).toNat 0 p0) r rf rp := by
  intro p0 h0
  obtain ⟨p, q1, q2⟩ := h p0 h0
  obtain ⟨k1, k2, -, k4, -, -⟩ := TKR_kd q1
  obtain ⟨e, e1, e2, e3⟩ := RX_err (hP sp ht) h3
  rw [k2] at e1
  rw [← q2, rdR_one (by omega), if_pos ⟨k1.symm.trans h1, (k4 h1).symm.trans h2⟩, if_neg (by omega), e1]
  exact ⟨hr, e2, e3⟩
theorem RLR_step (h : RLR t n P g most fr0 sp0 tok0 val0 c fr sp tok val) (h1 : tok = 2) (h2 : val = g) (hc : c < most) (ht : TKR t n sp fr1 sp1 tok1 val1) (hP : ∀ p : Int, TKR t n p fr1 sp1 tok1 val1 → RX t n (P p) r2 rf rp fr2 sp2 tok2 val2) (h3 : r2 ≠ -1) (hc' : c' = c + 1) : RLR t n P g most fr0 sp0 tok0 val0 c' fr2 sp2 tok2 val2 := by
  intro p0 h0
  obtain ⟨p, q1, q2⟩ := h p0 h0
  obtain ⟨k1, k2, -, k4, -, -⟩ := TKR_kd q1
  obtain ⟨p', e1, e2⟩ := RX_get (hP sp ht) h3
  rw [k2] at e1
  refine ⟨p', e2, ?_⟩
  rw [← q2, rdR_one (c := c) (by omega), if_pos ⟨k1.symm.trans h1, (k4 h1).symm.trans h2⟩, if_neg (by omega), e1, hc']
end RLs
