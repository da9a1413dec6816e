/-! a path, as the class reads it -/
def optP (w : Nat) (t : Nat → Int32) (n k lo hi p : Int) : Except (Int × Int) Int := if kdOf w t n p = k then sndE (numP w t n lo hi (nxtI t n p)) else .ok p
def pathP (w : Nat) (t : Nat → Int32) (n h p : Int) : Except (Int × Int) Int :=
  ((sndE (((sndE (((sndE ((passP w t n (256 : Int32).toInt p).bind (numP w t n (0 : Int32).toInt h))).bind (passP w t n (257 : Int32).toInt)).bind (numP w t n (0 : Int32).toInt h))).bind (passP w t n (258 : Int32).toInt)).bind (numP w t n (1 : Int32).toInt (99 : Int32).toInt))).bind (optP w t n 259 (0 : Int32).toInt (9 : Int32).toInt)).bind (passP w t n (59 : Int32).toInt)
theorem path_as {w : Nat} {t : Nat → Int32} {n h : Int} (s : Except (Int × Int) Int) : s.bind (pathP w t n h) = ((sndE (((sndE (((sndE ((s.bind (passP w t n (256 : Int32).toInt)).bind (numP w t n (0 : Int32).toInt h))).bind (passP w t n (257 : Int32).toInt)).bind (numP w t n (0 : Int32).toInt h))).bind (passP w t n (258 : Int32).toInt)).bind (numP w t n (1 : Int32).toInt (99 : Int32).toInt))).bind (optP w t n 259 (0 : Int32).toInt (9 : Int32).toInt)).bind (passP w t n (59 : Int32).toInt) := by
  cases s <;> rfl
section OPs
variable {w : Nat} {t : Nat → Int32} {n k lo hi r f f' fp fp' a a' pl pl' kd kd' vl vl' : Int} {s : Except (Int × Int) Int}
theorem CS_opt_no (hs : CS w t n s f fp a pl kd vl) (hk : kd ≠ k) : CS w t n (s.bind (optP w t n k lo hi)) f fp a pl kd vl := by
  cases s with
  | error e => exact hs
  | ok p =>
    obtain ⟨g1, -, -, -⟩ := TKS_kd hs.2
    show CS w t n (optP w t n k lo hi p) f fp a pl kd vl
    unfold optP
    rw [if_neg (fun z => hk (g1.trans z))]
    exact hs
theorem CS_opt_yes (hs : CS w t n s f fp a pl kd vl) (hk : kd = k) (h : NS w t n ((s.bind (fun p => .ok (nxtI t n p))).bind (numP w t n lo hi)) r f' fp' a' pl' kd' vl') : CS w t n (s.bind (optP w t n k lo hi)) f' fp' a' pl' kd' vl' := by
  cases s with
  | error e => exact h.1
  | ok p =>
    obtain ⟨g1, -, -, -⟩ := TKS_kd hs.2
    show CS w t n (optP w t n k lo hi p) f' fp' a' pl' kd' vl'
    unfold optP
    rw [if_pos (g1.symm.trans hk)]
    exact h.1
end OPs
