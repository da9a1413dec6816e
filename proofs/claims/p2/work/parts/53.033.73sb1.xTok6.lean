/-! what is read so far: a spot, or a fault that stays -/
def kdOf (w : Nat) (t : Nat → Int32) (n p : Int) : Int := tkK w t n (tkA t n p) (tkB t n (tkA t n p))
def nxtI (t : Nat → Int32) (n p : Int) : Int := tkB t n (tkA t n p)
def vlOf (t : Nat → Int32) (n p : Int) : Int := decI t (tkA t n p) (nxtI t n p - tkA t n p).toNat
def CS (w : Nat) (t : Nat → Int32) (n : Int) (s : Except (Int × Int) Int) (f fp at' pl kd vl : Int) : Prop := match s with
  | .ok p => f = 0 ∧ TKS w t n p pl at' kd vl
  | .error e => f = e.1 ∧ fp = e.2 ∧ e.1 ≠ 0
def passP (w : Nat) (t : Nat → Int32) (n due p : Int) : Except (Int × Int) Int := if kdOf w t n p = due then .ok (nxtI t n p) else .error (1, tkA t n p)
def numP (w : Nat) (t : Nat → Int32) (n lo hi p : Int) : Except (Int × Int) (Int × Int) := if kdOf w t n p = 1 then (if lo ≤ vlOf t n p ∧ vlOf t n p ≤ hi then .ok (vlOf t n p, nxtI t n p) else .error (2, tkA t n p)) else .error (1, tkA t n p)
def sndE (s : Except (Int × Int) (Int × Int)) : Except (Int × Int) Int := match s with
  | .ok x => .ok x.2
  | .error e => .error e
def NS (w : Nat) (t : Nat → Int32) (n : Int) (s : Except (Int × Int) (Int × Int)) (r f fp at' pl kd vl : Int) : Prop := CS w t n (sndE s) f fp at' pl kd vl ∧ ∀ x : Int × Int, s = .ok x → r = x.1
section CSs
variable {w : Nat} {t : Nat → Int32} {n p due lo hi r f f' fp fp' a a' pl pl' kd kd' vl vl' : Int} {s : Except (Int × Int) Int}
theorem TKS_kd (h : TKS w t n p pl a kd vl) : kd = kdOf w t n p ∧ a = nxtI t n p ∧ pl = tkA t n p ∧ (kd = 1 → vl = vlOf t n p) := by
  obtain ⟨h1, h2, h3, h4⟩ := h
  subst h1
  subst h2
  exact ⟨h3, rfl, rfl, h4⟩
theorem CS_step (hs : CS w t n s f fp a pl kd vl) (h1 : f ≠ 0 → pl' = pl ∧ a' = a ∧ kd' = kd ∧ vl' = vl) (h2 : f = 0 → TKS w t n a pl' a' kd' vl') : CS w t n (s.bind (fun p => .ok (nxtI t n p))) f fp a' pl' kd' vl' := by
  cases s with
  | error e => exact hs
  | ok p =>
    obtain ⟨q1, q2⟩ := hs
    obtain ⟨-, g2, -, -⟩ := TKS_kd q2
    refine ⟨q1, ?_⟩
    rw [← g2]
    exact h2 q1
theorem CS_pass_eq (hs : CS w t n s f fp a pl kd vl) (hk : kd = due) (h1 : f ≠ 0 → pl' = pl ∧ a' = a ∧ kd' = kd ∧ vl' = vl) (h2 : f = 0 → TKS w t n a pl' a' kd' vl') : CS w t n (s.bind (passP w t n due)) f fp a' pl' kd' vl' := by
  cases s with
  | error e => exact hs
  | ok p =>
    obtain ⟨q1, q2⟩ := hs
    obtain ⟨g1, g2, -, -⟩ := TKS_kd q2
    show CS w t n (passP w t n due p) f fp a' pl' kd' vl'
    unfold passP
    rw [if_pos (g1.symm.trans hk)]
    refine ⟨q1, ?_⟩
    rw [← g2]
    exact h2 q1
theorem CS_pass_ne (hs : CS w t n s f fp a pl kd vl) (hk : kd ≠ due) (r1 : f ≠ 0 → f' = f ∧ fp' = fp) (r2 : f = 0 → f' = 1 ∧ fp' = pl) : CS w t n (s.bind (passP w t n due)) f' fp' a' pl' kd' vl' := by
  cases s with
  | error e =>
    obtain ⟨q1, q2, q3⟩ := hs
    obtain ⟨z1, z2⟩ := r1 (by rw [q1]; exact q3)
    exact ⟨z1.trans q1, z2.trans q2, q3⟩
  | ok p =>
    obtain ⟨q1, q2⟩ := hs
    obtain ⟨g1, -, g3, -⟩ := TKS_kd q2
    show CS w t n (passP w t n due p) f' fp' a' pl' kd' vl'
    unfold passP
    rw [if_neg (fun z => hk (g1.trans z))]
    obtain ⟨z1, z2⟩ := r2 q1
    exact ⟨z1, z2.trans g3, (show (1 : Int) ≠ 0 from by decide)⟩
theorem CS_num_ok (hs : CS w t n s f fp a pl kd vl) (hk : f = 0 → kd = 1) (hv : f = 0 → lo ≤ vl ∧ vl ≤ hi) (h1 : f ≠ 0 → pl' = pl ∧ a' = a ∧ kd' = kd ∧ vl' = vl) (h2 : f = 0 → TKS w t n a pl' a' kd' vl') (hr : f = 0 → r = vl) : NS w t n (s.bind (numP w t n lo hi)) r f fp a' pl' kd' vl' := by
  cases s with
  | error e => exact ⟨hs, fun x hx => by cases hx⟩
  | ok p =>
    obtain ⟨q1, q2⟩ := hs
    obtain ⟨g1, g2, -, g4⟩ := TKS_kd q2
    have k := hk q1
    have v := g4 k
    show NS w t n (numP w t n lo hi p) r f fp a' pl' kd' vl'
    unfold numP
    rw [if_pos (g1.symm.trans k), if_pos (by rw [← v]; exact hv q1)]
    refine ⟨⟨q1, ?_⟩, fun x hx => ?_⟩
    · show TKS w t n (nxtI t n p) pl' a' kd' vl'
      rw [← g2]; exact h2 q1
    · cases hx; exact (hr q1).trans v
theorem CS_num_no (hs : CS w t n s f fp a pl kd vl) (hk : f = 0 → kd ≠ 1) (r1 : f ≠ 0 → f' = f ∧ fp' = fp) (r2 : f = 0 → f' = 1 ∧ fp' = pl) : NS w t n (s.bind (numP w t n lo hi)) r f' fp' a' pl' kd' vl' := by
  cases s with
  | error e =>
    obtain ⟨q1, q2, q3⟩ := hs
    obtain ⟨z1, z2⟩ := r1 (by rw [q1]; exact q3)
    exact ⟨⟨z1.trans q1, z2.trans q2, q3⟩, fun x hx => by cases hx⟩
  | ok p =>
    obtain ⟨q1, q2⟩ := hs
    obtain ⟨g1, -, g3, -⟩ := TKS_kd q2
    show NS w t n (numP w t n lo hi p) r f' fp' a' pl' kd' vl'
    unfold numP
    rw [if_neg (fun z => hk q1 (g1.trans z))]
    obtain ⟨z1, z2⟩ := r2 q1
    exact ⟨⟨z1, z2.trans g3, (show (1 : Int) ≠ 0 from by decide)⟩, fun x hx => by cases hx⟩
theorem CS_num_bad (hs : CS w t n s f fp a pl kd vl) (hk : f = 0 → kd = 1) (hv : f = 0 → ¬ (lo ≤ vl ∧ vl ≤ hi)) (r1 : f ≠ 0 → f' = f ∧ fp' = fp) (r2 : f = 0 → f' = 2 ∧ fp' = pl) : NS w t n (s.bind (numP w t n lo hi)) r f' fp' a' pl' kd' vl' := by
  cases s with
  | error e =>
    obtain ⟨q1, q2, q3⟩ := hs
    obtain ⟨z1, z2⟩ := r1 (by rw [q1]; exact q3)
    exact ⟨⟨z1.trans q1, z2.trans q2, q3⟩, fun x hx => by cases hx⟩
  | ok p =>
    obtain ⟨q1, q2⟩ := hs
    obtain ⟨g1, -, g3, g4⟩ := TKS_kd q2
    have k := hk q1
    have v := g4 k
    show NS w t n (numP w t n lo hi p) r f' fp' a' pl' kd' vl'
    unfold numP
    rw [if_pos (g1.symm.trans k), if_neg (by rw [← v]; exact hv q1)]
    obtain ⟨z1, z2⟩ := r2 q1
    exact ⟨⟨z1, z2.trans g3, (show (2 : Int) ≠ 0 from by decide)⟩, fun x hx => by cases hx⟩
end CSs
