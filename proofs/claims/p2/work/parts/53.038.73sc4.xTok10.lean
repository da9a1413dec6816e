/-! the reference's readers: a spot, or NONE with fault and place -/
def ctOf (t : Nat → Int32) (n p : Int) : Int := tkC t n (tkA t n p) (nxtI t n p)
def wdOf (t : Nat → Int32) (n p : Int) : Int := wxI t (tkA t n p) (nxtI t n p) WL 0
def sgOf (t : Nat → Int32) (n p : Int) : Int := (t (tkA t n p).toNat).toInt
def wordR (t : Nat → Int32) (n g p : Int) : Except (Int × Int) Int := if ctOf t n p = 2 ∧ wdOf t n p = g then .ok (nxtI t n p) else .error (1, tkA t n p)
def markR (t : Nat → Int32) (n c p : Int) : Except (Int × Int) Int := if ctOf t n p = 4 ∧ sgOf t n p = c then .ok (nxtI t n p) else .error (1, tkA t n p)
def numR (t : Nat → Int32) (n lo hi p : Int) : Except (Int × Int) (Int × Int) := if ctOf t n p = 3 then (if lo ≤ vlOf t n p ∧ vlOf t n p ≤ hi then .ok (vlOf t n p, nxtI t n p) else .error (2, tkA t n p)) else .error (1, tkA t n p)
def RX (t : Nat → Int32) (n : Int) (s : Except (Int × Int) Int) (r rf rp fr sp tok val : Int) : Prop := match s with
  | .ok p => r ≠ -1 ∧ TKR t n p fr sp tok val
  | .error e => r = -1 ∧ rf = e.1 ∧ rp = e.2
def RN (t : Nat → Int32) (n : Int) (s : Except (Int × Int) (Int × Int)) (r rf rp fr sp tok val : Int) : Prop := match s with
  | .ok x => r = x.1 ∧ TKR t n x.2 fr sp tok val
  | .error e => r = -1 ∧ rf = e.1 ∧ rp = e.2
section RXs
variable {t : Nat → Int32} {n p lo hi g r rf rp fr sp tok val fr' sp' tok' val' : Int}
theorem TKR_kd (h : TKR t n p fr sp tok val) : tok = ctOf t n p ∧ sp = nxtI t n p ∧ fr = tkA t n p ∧ (tok = 2 → val = wdOf t n p) ∧ (tok = 3 → val = vlOf t n p) ∧ (tok = 4 → val = sgOf t n p) := by
  obtain ⟨h1, h2, h3, h4, h5, h6⟩ := h
  subst h1
  subst h2
  exact ⟨h3, rfl, rfl, h4, h5, h6⟩
theorem RX_word_ok (h : TKR t n p fr sp tok val) (h1 : tok = 2) (h2 : val = g) (hr : r ≠ -1) (hn : TKR t n sp fr' sp' tok' val') : RX t n (wordR t n g p) r rf rp fr' sp' tok' val' := by
  obtain ⟨k1, k2, -, k4, -, -⟩ := TKR_kd h
  unfold wordR
  rw [if_pos ⟨k1.symm.trans h1, (k4 h1).symm.trans h2⟩]
  exact ⟨hr, k2 ▸ hn⟩
theorem RX_word_no (h : TKR t n p fr sp tok val) (h1 : ¬ (tok = 2 ∧ val = g)) (hr : r = -1) (hf : rf = 1) (hp : rp = fr) : RX t n (wordR t n g p) r rf rp fr' sp' tok' val' := by
  obtain ⟨k1, -, k3, k4, -, -⟩ := TKR_kd h
  unfold wordR
  rw [if_neg (fun z => h1 ⟨k1.trans z.1, (k4 (k1.trans z.1)).trans z.2⟩)]
  exact ⟨hr, hf, hp.trans k3⟩
theorem RX_mark_ok (h : TKR t n p fr sp tok val) (h1 : tok = 4) (h2 : val = g) (hr : r ≠ -1) (hn : TKR t n sp fr' sp' tok' val') : RX t n (markR t n g p) r rf rp fr' sp' tok' val' := by
  obtain ⟨k1, k2, -, -, -, k6⟩ := TKR_kd h
  unfold markR
  rw [if_pos ⟨k1.symm.trans h1, (k6 h1).symm.trans h2⟩]
  exact ⟨hr, k2 ▸ hn⟩
theorem RX_mark_no (h : TKR t n p fr sp tok val) (h1 : ¬ (tok = 4 ∧ val = g)) (hr : r = -1) (hf : rf = 1) (hp : rp = fr) : RX t n (markR t n g p) r rf rp fr' sp' tok' val' := by
  obtain ⟨k1, -, k3, -, -, k6⟩ := TKR_kd h
  unfold markR
  rw [if_neg (fun z => h1 ⟨k1.trans z.1, (k6 (k1.trans z.1)).trans z.2⟩)]
  exact ⟨hr, hf, hp.trans k3⟩
theorem RN_ok (h : TKR t n p fr sp tok val) (h1 : tok = 3) (h2 : lo ≤ val ∧ val ≤ hi) (hr : r = val) (hn : TKR t n sp fr' sp' tok' val') : RN t n (numR t n lo hi p) r rf rp fr' sp' tok' val' := by
  obtain ⟨k1, k2, -, -, k5, -⟩ := TKR_kd h
  unfold numR
  rw [if_pos (k1.symm.trans h1), if_pos (by rw [← k5 h1]; exact h2)]
  exact ⟨hr.trans (k5 h1), k2 ▸ hn⟩
theorem RN_no (h : TKR t n p fr sp tok val) (h1 : tok ≠ 3) (hr : r = -1) (hf : rf = 1) (hp : rp = fr) : RN t n (numR t n lo hi p) r rf rp fr' sp' tok' val' := by
  obtain ⟨k1, -, k3, -, -, -⟩ := TKR_kd h
  unfold numR
  rw [if_neg (fun z => h1 (k1.trans z))]
  exact ⟨hr, hf, hp.trans k3⟩
theorem RN_bad (h : TKR t n p fr sp tok val) (h1 : tok = 3) (h2 : ¬ (lo ≤ val ∧ val ≤ hi)) (hr : r = -1) (hf : rf = 2) (hp : rp = fr) : RN t n (numR t n lo hi p) r rf rp fr' sp' tok' val' := by
  obtain ⟨k1, -, k3, -, k5, -⟩ := TKR_kd h
  unfold numR
  rw [if_pos (k1.symm.trans h1), if_neg (by rw [← k5 h1]; exact h2)]
  exact ⟨hr, hf, hp.trans k3⟩
end RXs
