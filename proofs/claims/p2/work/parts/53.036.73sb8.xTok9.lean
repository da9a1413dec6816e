/-! a need, as the class reads it -/
def rngP (w : Nat) (t : Nat → Int32) (n lo hi p : Int) : Except (Int × Int) Int := if lo ≤ kdOf w t n p ∧ kdOf w t n p ≤ hi then .ok (nxtI t n p) else .error (1, tkA t n p)
section RGs
variable {w : Nat} {t : Nat → Int32} {n lo hi f f' fp fp' a a' pl pl' kd kd' vl vl' : Int} {s : Except (Int × Int) Int}
theorem CS_rng_ok (hs : CS w t n s f fp a pl kd vl) (hk : lo ≤ kd ∧ kd ≤ hi) (h1 : f ≠ 0 → pl' = pl ∧ a' = a ∧ kd' = kd ∧ vl' = vl) (h2 : f = 0 → TKS w t n a pl' a' kd' vl') : CS w t n (s.bind (rngP w t n lo hi)) f fp a' pl' kd' vl' := by
  cases s with
  | error e => exact hs
  | ok p =>
    obtain ⟨q1, q2⟩ := hs
    obtain ⟨g1, g2, -, -⟩ := TKS_kd q2
    show CS w t n (rngP w t n lo hi p) f fp a' pl' kd' vl'
    unfold rngP
    rw [if_pos (by rw [← g1]; exact hk)]
    refine ⟨q1, ?_⟩
    rw [← g2]
    exact h2 q1
theorem CS_rng_no (hs : CS w t n s f fp a pl kd vl) (hk : ¬ (lo ≤ kd ∧ kd ≤ hi)) (r1 : f ≠ 0 → f' = f ∧ fp' = fp) (r2 : f = 0 → f' = 1 ∧ fp' = pl) : CS w t n (s.bind (rngP w t n lo hi)) f' fp' a' pl' kd' vl' := by
  cases s with
  | error e =>
    obtain ⟨q1, q2, q3⟩ := hs
    obtain ⟨z1, z2⟩ := r1 (by rw [q1]; exact q3)
    exact ⟨z1.trans q1, z2.trans q2, q3⟩
  | ok p =>
    obtain ⟨q1, q2⟩ := hs
    obtain ⟨g1, -, g3, -⟩ := TKS_kd q2
    show CS w t n (rngP w t n lo hi p) f' fp' a' pl' kd' vl'
    unfold rngP
    rw [if_neg (by rw [← g1]; exact hk)]
    obtain ⟨z1, z2⟩ := r2 q1
    exact ⟨z1, z2.trans g3, (show (1 : Int) ≠ 0 from by decide)⟩
end RGs
/-- from .. to: the second number is not below the first -/
def twoP (w : Nat) (t : Nat → Int32) (n : Int) (s : Except (Int × Int) (Int × Int)) : Except (Int × Int) (Int × Int) := s.bind (fun x => (passP w t n (263 : Int32).toInt x.2).bind (numP w t n x.1 (9999 : Int32).toInt))
theorem two_eq {w : Nat} {t : Nat → Int32} {n r : Int} {s : Except (Int × Int) (Int × Int)} (h : ∀ x : Int × Int, s = .ok x → r = x.1) : ((sndE s).bind (passP w t n (263 : Int32).toInt)).bind (numP w t n r (9999 : Int32).toInt) = twoP w t n s := by
  cases s with
  | error e => rfl
  | ok x =>
    have q := h x rfl
    subst q
    rfl
def needP (w : Nat) (t : Nat → Int32) (n h p : Int) : Except (Int × Int) Int :=
  (sndE (((sndE (twoP w t n (((sndE ((((passP w t n (256 : Int32).toInt p).bind (rngP w t n 257 260)).bind (passP w t n (261 : Int32).toInt)).bind (numP w t n (0 : Int32).toInt h))).bind (passP w t n (262 : Int32).toInt)).bind (numP w t n (0 : Int32).toInt (9999 : Int32).toInt)))).bind (passP w t n (264 : Int32).toInt)).bind (numP w t n (1 : Int32).toInt (99 : Int32).toInt))).bind (passP w t n (59 : Int32).toInt)
theorem need_as {w : Nat} {t : Nat → Int32} {n h : Int} (s : Except (Int × Int) Int) : s.bind (needP w t n h) = (sndE (((sndE (twoP w t n (((sndE ((((s.bind (passP w t n (256 : Int32).toInt)).bind (rngP w t n 257 260)).bind (passP w t n (261 : Int32).toInt)).bind (numP w t n (0 : Int32).toInt h))).bind (passP w t n (262 : Int32).toInt)).bind (numP w t n (0 : Int32).toInt (9999 : Int32).toInt)))).bind (passP w t n (264 : Int32).toInt)).bind (numP w t n (1 : Int32).toInt (99 : Int32).toInt))).bind (passP w t n (59 : Int32).toInt) := by
  cases s <;> rfl
theorem need_no {w : Nat} {t : Nat → Int32} {n h p : Int} (hk : kdOf w t n p ≠ 256) : ∃ e : Int × Int, needP w t n h p = .error e := by
  refine ⟨(1, tkA t n p), ?_⟩
  unfold needP
  have q : passP w t n (256 : Int32).toInt p = .error (1, tkA t n p) := by
    unfold passP
    rw [if_neg (fun z => hk (z.trans (by decide +kernel)))]
  rw [q]
  rfl
