/-! a need, as the reference reads it (behind its first word) -/
def rngR (t : Nat → Int32) (n lo hi p : Int) : Except (Int × Int) Int := if ctOf t n p = 2 ∧ (lo ≤ wdOf t n p ∧ wdOf t n p ≤ hi) then .ok (nxtI t n p) else .error (1, tkA t n p)
def needR (t : Nat → Int32) (n h p : Int) : Except (Int × Int) Int :=
  match rngR t n 21 24 p with
  | .error e => .error e
  | .ok p0 => match wordR t n (25 : Int32).toInt p0 with
    | .error e => .error e
    | .ok p1 => match numR t n (0 : Int32).toInt h p1 with
      | .error e => .error e
      | .ok x2 => match wordR t n (26 : Int32).toInt x2.2 with
        | .error e => .error e
        | .ok p3 => match numR t n (0 : Int32).toInt (9999 : Int32).toInt p3 with
          | .error e => .error e
          | .ok x4 => match wordR t n (17 : Int32).toInt x4.2 with
            | .error e => .error e
            | .ok p5 => match numR t n x4.1 (9999 : Int32).toInt p5 with
              | .error e => .error e
              | .ok x6 => match wordR t n (27 : Int32).toInt x6.2 with
                | .error e => .error e
                | .ok p7 => match numR t n (1 : Int32).toInt (99 : Int32).toInt p7 with
                  | .error e => .error e
                  | .ok x8 => markR t n (59 : Int32).toInt x8.2
section RGn
variable {t : Nat → Int32} {n p lo hi fr sp tok val : Int}
theorem rng_ok (h : TKR t n p fr sp tok val) (h1 : tok = 2) (h2 : lo ≤ val ∧ val ≤ hi) : rngR t n lo hi p = .ok sp := by
  obtain ⟨k1, k2, -, k4, -, -⟩ := TKR_kd h
  unfold rngR
  rw [if_pos ⟨k1.symm.trans h1, by rw [← k4 h1]; exact h2⟩, k2]
theorem rng_no (h : TKR t n p fr sp tok val) (h1 : ¬ (tok = 2 ∧ lo ≤ val ∧ val ≤ hi)) : rngR t n lo hi p = .error (1, fr) := by
  obtain ⟨k1, -, k3, k4, -, -⟩ := TKR_kd h
  unfold rngR
  rw [if_neg (fun z => h1 ⟨k1.trans z.1, by rw [k4 (k1.trans z.1)]; exact z.2⟩), k3]
end RGn
