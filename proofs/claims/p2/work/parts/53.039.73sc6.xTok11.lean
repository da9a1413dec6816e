/-! a path, as the reference reads it (behind its first word) -/
def optR (t : Nat → Int32) (n g lo hi p : Int) : Except (Int × Int) Int := if ctOf t n p = 2 ∧ wdOf t n p = g then sndE (numR t n lo hi (nxtI t n p)) else .ok p
def pathR (t : Nat → Int32) (n h p : Int) : Except (Int × Int) Int :=
  match numR t n (0 : Int32).toInt h p with
  | .error e => .error e
  | .ok x1 => match wordR t n (17 : Int32).toInt x1.2 with
    | .error e => .error e
    | .ok p2 => match numR t n (0 : Int32).toInt h p2 with
      | .error e => .error e
      | .ok x3 => match wordR t n (18 : Int32).toInt x3.2 with
        | .error e => .error e
        | .ok p4 => match numR t n (1 : Int32).toInt (99 : Int32).toInt p4 with
          | .error e => .error e
          | .ok x5 => match optR t n 19 (0 : Int32).toInt (9 : Int32).toInt x5.2 with
            | .error e => .error e
            | .ok p6 => markR t n (59 : Int32).toInt p6
section RGt
variable {t : Nat → Int32} {n p lo hi g r rf rp fr sp tok val fr' sp' tok' val' : Int}
theorem RN_get {s : Except (Int × Int) (Int × Int)} (h : RN t n s r rf rp fr sp tok val) (hr : r ≠ -1) : ∃ x : Int × Int, s = .ok x ∧ r = x.1 ∧ TKR t n x.2 fr sp tok val := by
  cases s with
  | error e => exact absurd h.1 hr
  | ok x => exact ⟨x, rfl, h.1, h.2⟩
theorem RX_get {s : Except (Int × Int) Int} (h : RX t n s r rf rp fr sp tok val) (hr : r ≠ -1) : ∃ p' : Int, s = .ok p' ∧ TKR t n p' fr sp tok val := by
  cases s with
  | error e => exact absurd h.1 hr
  | ok x => exact ⟨x, rfl, h.2⟩
theorem RX_err {s : Except (Int × Int) Int} (h : RX t n s r rf rp fr sp tok val) (hr : r = -1) : ∃ e : Int × Int, s = .error e ∧ rf = e.1 ∧ rp = e.2 := by
  cases s with
  | error e => exact ⟨e, rfl, h.2⟩
  | ok x => exact absurd hr h.1
theorem num_lo {x : Int × Int} (h : numR t n lo hi p = .ok x) : lo ≤ x.1 := by
  unfold numR at h
  by_cases h1 : ctOf t n p = 3
  · rw [if_pos h1] at h
    by_cases h2 : lo ≤ vlOf t n p ∧ vlOf t n p ≤ hi
    · rw [if_pos h2] at h; cases h; exact h2.1
    · rw [if_neg h2] at h; cases h
  · rw [if_neg h1] at h; cases h
theorem RN_err (h : RN t n (numR t n lo hi p) r rf rp fr sp tok val) (hl : 0 ≤ lo) (hr : r = -1) : ∃ e : Int × Int, numR t n lo hi p = .error e ∧ rf = e.1 ∧ rp = e.2 := by
  cases hs : numR t n lo hi p with
  | error e => rw [hs] at h; exact ⟨e, rfl, h.2⟩
  | ok x =>
    have q := num_lo hs
    rw [hs] at h
    have z : r = x.1 := h.1
    omega
theorem opt_no (h : TKR t n p fr sp tok val) (h1 : ¬ (tok = 2 ∧ val = g)) : optR t n g lo hi p = .ok p := by
  obtain ⟨k1, -, -, k4, -, -⟩ := TKR_kd h
  unfold optR
  rw [if_neg (fun z => h1 ⟨k1.trans z.1, (k4 (k1.trans z.1)).trans z.2⟩)]
theorem opt_yes (h : TKR t n p fr sp tok val) (h1 : tok = 2) (h2 : val = g) : optR t n g lo hi p = sndE (numR t n lo hi sp) := by
  obtain ⟨k1, k2, -, k4, -, -⟩ := TKR_kd h
  unfold optR
  rw [if_pos ⟨k1.symm.trans h1, (k4 h1).symm.trans h2⟩, k2]
end RGt
