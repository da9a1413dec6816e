/-! rounds: what is open, and the nights -/
def stkL (sa tm : Nat → Int32) : Nat → List (Int × Int)
  | 0 => []
  | o + 1 => ((sa o).toInt, (tm o).toInt) :: stkL sa tm o
theorem stkL_len {sa tm : Nat → Int32} : ∀ o : Nat, (stkL sa tm o).length = o
  | 0 => rfl
  | o + 1 => congrArg (· + 1) (stkL_len o)
theorem stkL_same {sa tm sa' tm' : Nat → Int32} : ∀ o : Nat, (∀ j : Nat, j < o → sa' j = sa j ∧ tm' j = tm j) → stkL sa' tm' o = stkL sa tm o
  | 0, _ => rfl
  | o + 1, h => by
    show ((sa' o).toInt, (tm' o).toInt) :: stkL sa' tm' o = ((sa o).toInt, (tm o).toInt) :: stkL sa tm o
    rw [(h o (by omega)).1, (h o (by omega)).2, stkL_same o (fun j hj => h j (by omega))]
def rstp (x : Int × List (Int × Int)) (s : Int × Int) : Int × List (Int × Int) :=
  if s.1 = 2 then (x.1, (x.1, s.2) :: x.2)
  else if s.1 = 3 then (match x.2 with
    | [] => x
    | a :: st => (a.1 + (x.1 - a.1) * a.2, st))
  else (x.1 + (if s.1 = 0 then 1 else s.2), x.2)
theorem rstp_go {z r : Int} {st : List (Int × Int)} : rstp (z, st) (0, r) = (z + 1, st) := by simp [rstp]
theorem rstp_stay {z r : Int} {st : List (Int × Int)} : rstp (z, st) (1, r) = (z + r, st) := by simp [rstp]
theorem rstp_again {z r : Int} {st : List (Int × Int)} : rstp (z, st) (2, r) = (z, (z, r) :: st) := by simp [rstp]
theorem rstp_end {z r a m : Int} {st : List (Int × Int)} : rstp (z, (a, m) :: st) (3, r) = (a + (z - a) * m, st) := by simp [rstp]
theorem rst_push {sa tm sa' tm' : Nat → Int32} {o o' : Nat} {z z' r : Int} {i1 i2 v w : Int32} (e1 : sa' = upd sa i1.toNatClampNeg v) (e2 : tm' = upd tm i2.toNatClampNeg w) (hi1 : i1.toInt = o) (hi2 : i2.toInt = o) (hv : v.toInt = z) (hw : w.toInt = r) (hz : z' = z) (ho : o' = o + 1) : (z', stkL sa' tm' o') = rstp (z, stkL sa tm o) (2, r) := by
  subst ho
  have s1 : sa' o = v := us1 e1 (by omega) (by omega)
  have s2 : tm' o = w := us1 e2 (by omega) (by omega)
  have u : ∀ j : Nat, j < o → sa' j = sa j ∧ tm' j = tm j := fun j hj => ⟨un1 e1 (by omega) (by omega), un1 e2 (by omega) (by omega)⟩
  rw [rstp_again, hz]
  show (z, ((sa' o).toInt, (tm' o).toInt) :: stkL sa' tm' o) = _
  rw [s1, s2, hv, hw, stkL_same o u]
theorem rst_close {sa tm : Nat → Int32} {o o' : Nat} {z z' : Int} (ho : o = o' + 1) (hz : z' = (sa o').toInt + (z - (sa o').toInt) * (tm o').toInt) : (z', stkL sa tm o') = rstp (z, stkL sa tm o) (3, 0) := by
  subst ho
  show _ = rstp (z, ((sa o').toInt, (tm o').toInt) :: stkL sa tm o') (3, 0)
  rw [rstp_end, hz]
/-! a round, as the class reads it -/
def seqP (w : Nat) (t : Nat → Int32) (n op lo hi c q : Int) : Except (Int × Int) ((Int × Int) × Int) :=
  match numP w t n lo hi q with
  | .error e => .error e
  | .ok x => match passP w t n c x.2 with
    | .error e => .error e
    | .ok r => .ok ((op, x.1), r)
def itP (w : Nat) (t : Nat → Int32) (n h : Int) (o : Nat) (p : Int) : Except (Int × Int) ((Int × Int) × Int) :=
  if kdOf w t n p = 256 then seqP w t n 0 (0 : Int32).toInt h (59 : Int32).toInt (nxtI t n p)
  else if kdOf w t n p = 257 then seqP w t n 1 (1 : Int32).toInt (60 : Int32).toInt (59 : Int32).toInt (nxtI t n p)
  else if kdOf w t n p = 258 then (if 4 ≤ o then .error (3, tkA t n p) else seqP w t n 2 (1 : Int32).toInt (9 : Int32).toInt (40 : Int32).toInt (nxtI t n p))
  else if kdOf w t n p = 41 ∧ 0 < o then .ok ((3, 0), nxtI t n p)
  else .error (1, tkA t n p)
def rnG (E : Int → Bool) (I : Nat → Int → Except (Int × Int) ((Int × Int) × Int)) : Nat → Int × List (Int × Int) → Int → Except (Int × Int) ((Int × List (Int × Int)) × Int)
  | 0, x, p => .ok (x, p)
  | k + 1, x, p => if E p = true then .ok (x, p) else match I x.2.length p with
    | .error e => .error e
    | .ok y => rnG E I k (rstp x y.1) y.2
def endP (w : Nat) (t : Nat → Int32) (n p : Int) : Bool := decide (kdOf w t n p = 0)
def finG (t : Nat → Int32) (n : Int) (y : (Int × List (Int × Int)) × Int) : Except (Int × Int) Int := if 0 < y.1.2.length then .error (1, tkA t n y.2) else if 200 < y.1.1 then .error (4, tkA t n y.2) else .ok y.2
def roundP (w : Nat) (t : Nat → Int32) (n h p : Int) : Except (Int × Int) Int := (rnG (endP w t n) (itP w t n h) 401 (0, []) p).bind (finG t n)
def IC (w : Nat) (t : Nat → Int32) (n : Int) (s : Except (Int × Int) ((Int × Int) × Int)) (x x' : Int × List (Int × Int)) (f fp a pl kd vl : Int) : Prop := match s with
  | .error e => CS w t n (.error e) f fp a pl kd vl
  | .ok y => CS w t n (.ok y.2) f fp a pl kd vl ∧ x' = rstp x y.1
def RWL (w : Nat) (t : Nat → Int32) (n h f0 fp0 a0 pl0 kd0 vl0 i z : Int) (st : List (Int × Int)) (f fp a pl kd vl : Int) : Prop := ∀ s0 : Except (Int × Int) Int, CS w t n s0 f0 fp0 a0 pl0 kd0 vl0 → ∃ s : Except (Int × Int) Int, CS w t n s f fp a pl kd vl ∧ s.bind (rnG (endP w t n) (itP w t n h) (401 - i).toNat (z, st)) = s0.bind (rnG (endP w t n) (itP w t n h) 401 (0, []))
section RWs
variable {w : Nat} {t : Nat → Int32} {n h f0 fp0 a0 pl0 kd0 vl0 i i' z z' f fp a pl kd vl f1 fp1 a1 pl1 kd1 vl1 f2 fp2 a2 pl2 kd2 vl2 f' fp' a' pl' kd' vl' : Int} {st st' : List (Int × Int)} {sa tm : Nat → Int32} {o : Nat}
theorem RWL_init (hi : i = 0) (hz : z = 0) (ho : o = 0) : RWL w t n h f0 fp0 a0 pl0 kd0 vl0 i z (stkL sa tm o) f0 fp0 a0 pl0 kd0 vl0 := by
  subst hi hz ho
  exact fun s0 h => ⟨s0, h, rfl⟩
theorem RWL_it (h0 : RWL w t n h f0 fp0 a0 pl0 kd0 vl0 i z st f fp a pl kd vl) (hf : f = 0) (hk : kd ≠ 0) (ho : o = st.length) (hI : ∀ p : Int, TKS w t n p pl a kd vl → IC w t n (itP w t n h o p) (z, st) (z', st') f' fp' a' pl' kd' vl') (hi : i' = i + 1) (hi2 : i ≤ 400) : RWL w t n h f0 fp0 a0 pl0 kd0 vl0 i' z' st' f' fp' a' pl' kd' vl' := by
  intro s0 q0
  obtain ⟨s, h1, h2⟩ := h0 s0 q0
  cases s with
  | error e => exact absurd (h1.1.symm.trans hf) h1.2.2
  | ok p =>
    obtain ⟨g1, -, -, -⟩ := TKS_kd h1.2
    have q := hI p h1.2
    subst ho
    have e0 : (Except.ok p : Except (Int × Int) Int).bind (rnG (endP w t n) (itP w t n h) (401 - i).toNat (z, st)) = match itP w t n h st.length p with
        | .error e => .error e
        | .ok y => rnG (endP w t n) (itP w t n h) (401 - i').toNat (rstp (z, st) y.1) y.2 := by
      rw [show (401 - i).toNat = (401 - i').toNat + 1 from by omega]
      show (if endP w t n p = true then Except.ok ((z, st), p) else match itP w t n h st.length p with
        | .error e => .error e
        | .ok y => rnG (endP w t n) (itP w t n h) (401 - i').toNat (rstp (z, st) y.1) y.2) = _
      rw [if_neg (show ¬ endP w t n p = true from fun y => hk (g1.trans (of_decide_eq_true y)))]
    rw [e0] at h2
    cases hy : itP w t n h st.length p with
    | error e =>
      rw [hy] at q h2
      exact ⟨.error e, q, h2⟩
    | ok y =>
      rw [hy] at q h2
      refine ⟨.ok y.2, q.1, ?_⟩
      rw [q.2]
      exact h2
theorem RWL_out (h0 : RWL w t n h f0 fp0 a0 pl0 kd0 vl0 i z (stkL sa tm o) f fp a pl kd vl) (hx : 401 ≤ i ∨ f ≠ 0 ∨ kd = 0) (hr : f ≠ 0 → f' = f ∧ fp' = fp) (h1 : f = 0 → 0 < o → f' = 1 ∧ fp' = pl) (h4 : f = 0 → o = 0 → 200 < z → f' = 4 ∧ fp' = pl) (hok : f = 0 → o = 0 → z ≤ 200 → f' = 0) : ∀ s0 : Except (Int × Int) Int, CS w t n s0 f0 fp0 a0 pl0 kd0 vl0 → CS w t n (s0.bind (roundP w t n h)) f' fp' a pl kd vl := by
  intro s0 q0
  obtain ⟨s, k1, k2⟩ := h0 s0 q0
  have e0 : s0.bind (roundP w t n h) = (s0.bind (rnG (endP w t n) (itP w t n h) 401 (0, []))).bind (finG t n) := by cases s0 <;> rfl
  rw [e0, ← k2]
  cases s with
  | error e =>
    obtain ⟨y1, y2, y3⟩ := k1
    obtain ⟨z1, z2⟩ := hr (by rw [y1]; exact y3)
    exact ⟨z1.trans y1, z2.trans y2, y3⟩
  | ok p =>
    obtain ⟨y1, y2⟩ := k1
    obtain ⟨g1, -, g3, -⟩ := TKS_kd y2
    have e1 : (Except.ok p : Except (Int × Int) Int).bind (rnG (endP w t n) (itP w t n h) (401 - i).toNat (z, stkL sa tm o)) = .ok ((z, stkL sa tm o), p) := by
      show rnG (endP w t n) (itP w t n h) (401 - i).toNat (z, stkL sa tm o) p = _
      by_cases hi : 401 ≤ i
      · rw [show (401 - i).toNat = 0 from by omega]
        rfl
      · have hk : kd = 0 := by
          rcases hx with y | y | y
          · exact absurd y hi
          · exact absurd y1 y
          · exact y
        rw [show (401 - i).toNat = (400 - i).toNat + 1 from by omega]
        show (if endP w t n p = true then Except.ok ((z, stkL sa tm o), p) else _) = _
        rw [if_pos (show endP w t n p = true from decide_eq_true (g1.symm.trans hk))]
    rw [e1]
    show CS w t n (finG t n ((z, stkL sa tm o), p)) f' fp' a pl kd vl
    have e2 : finG t n ((z, stkL sa tm o), p) = if 0 < o then .error (1, tkA t n p) else if 200 < z then .error (4, tkA t n p) else .ok p := by
      show (if 0 < (stkL sa tm o).length then _ else _) = _
      rw [stkL_len]
    rw [e2]
    by_cases c1 : 0 < o
    · rw [if_pos c1]
      obtain ⟨z1, z2⟩ := h1 y1 c1
      exact ⟨z1, z2.trans g3, (show (1 : Int) ≠ 0 from by decide)⟩
    · rw [if_neg c1]
      by_cases c2 : 200 < z
      · rw [if_pos c2]
        obtain ⟨z1, z2⟩ := h4 y1 (by omega) c2
        exact ⟨z1, z2.trans g3, (show (4 : Int) ≠ 0 from by decide)⟩
      · rw [if_neg c2]
        exact ⟨hok y1 (by omega) (by omega), y2⟩
theorem IC_seq {op lo hi c q r : Int} {x x' : Int × List (Int × Int)} (ha : CS w t n (.ok q) f1 fp1 a1 pl1 kd1 vl1) (hn : ∀ s : Except (Int × Int) Int, CS w t n s f1 fp1 a1 pl1 kd1 vl1 → NS w t n (s.bind (numP w t n lo hi)) r f2 fp2 a2 pl2 kd2 vl2) (hp : ∀ s : Except (Int × Int) Int, CS w t n s f2 fp2 a2 pl2 kd2 vl2 → CS w t n (s.bind (passP w t n c)) f' fp' a' pl' kd' vl') (hx : f' = 0 → x' = rstp x (op, r)) : IC w t n (seqP w t n op lo hi c q) x x' f' fp' a' pl' kd' vl' := by
  have b : NS w t n (numP w t n lo hi q) r f2 fp2 a2 pl2 kd2 vl2 := hn _ ha
  unfold seqP
  cases hq : numP w t n lo hi q with
  | error e =>
    rw [hq] at b
    exact hp (.error e) b.1
  | ok y =>
    rw [hq] at b
    have d : CS w t n (passP w t n c y.2) f' fp' a' pl' kd' vl' := hp (.ok y.2) b.1
    show IC w t n (match passP w t n c y.2 with
      | .error e => .error e
      | .ok r => .ok ((op, y.1), r)) x x' f' fp' a' pl' kd' vl'
    cases hr : passP w t n c y.2 with
    | error e => rw [hr] at d; exact d
    | ok p =>
      rw [hr] at d
      refine ⟨d, ?_⟩
      show x' = rstp x (op, y.1)
      rw [← b.2 y rfl]
      exact hx d.1
theorem seq_in {lo hi c q r : Int} (ha : CS w t n (.ok q) f1 fp1 a1 pl1 kd1 vl1) (hn : ∀ s : Except (Int × Int) Int, CS w t n s f1 fp1 a1 pl1 kd1 vl1 → NS w t n (s.bind (numP w t n lo hi)) r f2 fp2 a2 pl2 kd2 vl2) (hp : ∀ s : Except (Int × Int) Int, CS w t n s f2 fp2 a2 pl2 kd2 vl2 → CS w t n (s.bind (passP w t n c)) f' fp' a' pl' kd' vl') (hf : f' = 0) : lo ≤ r ∧ r ≤ hi := by
  have b : NS w t n (numP w t n lo hi q) r f2 fp2 a2 pl2 kd2 vl2 := hn _ ha
  cases hq : numP w t n lo hi q with
  | error e =>
    rw [hq] at b
    have d : CS w t n (.error e) f' fp' a' pl' kd' vl' := hp (.error e) b.1
    exact absurd (d.1.symm.trans hf) d.2.2
  | ok y =>
    rw [hq] at b
    rw [b.2 y rfl]
    unfold numP at hq
    by_cases h1 : kdOf w t n q = 1
    · rw [if_pos h1] at hq
      by_cases h2 : lo ≤ vlOf t n q ∧ vlOf t n q ≤ hi
      · rw [if_pos h2] at hq; cases hq; exact h2
      · rw [if_neg h2] at hq; cases hq
    · rw [if_neg h1] at hq; cases hq
theorem IC_go {r : Int} (hk : kd = 256) (hf : f = 0) (ts : f = 0 → TKS w t n a pl1 a1 kd1 vl1) (hn : ∀ s : Except (Int × Int) Int, CS w t n s f fp a1 pl1 kd1 vl1 → NS w t n (s.bind (numP w t n (0 : Int32).toInt h)) r f2 fp2 a2 pl2 kd2 vl2) (hp : ∀ s : Except (Int × Int) Int, CS w t n s f2 fp2 a2 pl2 kd2 vl2 → CS w t n (s.bind (passP w t n (59 : Int32).toInt)) f' fp' a' pl' kd' vl') (hz : z' = z + 1) : ∀ p : Int, TKS w t n p pl a kd vl → IC w t n (itP w t n h o p) (z, st) (z', st) f' fp' a' pl' kd' vl' := by
  intro p hp0
  obtain ⟨g1, g2, -, -⟩ := TKS_kd hp0
  unfold itP
  rw [if_pos (g1.symm.trans hk)]
  exact IC_seq ⟨hf, by rw [← g2]; exact ts hf⟩ hn hp (fun _ => by rw [rstp_go, hz])
theorem IC_stay {r : Int} (hk : kd = 257) (hf : f = 0) (ts : f = 0 → TKS w t n a pl1 a1 kd1 vl1) (hn : ∀ s : Except (Int × Int) Int, CS w t n s f fp a1 pl1 kd1 vl1 → NS w t n (s.bind (numP w t n (1 : Int32).toInt (60 : Int32).toInt)) r f2 fp2 a2 pl2 kd2 vl2) (hp : ∀ s : Except (Int × Int) Int, CS w t n s f2 fp2 a2 pl2 kd2 vl2 → CS w t n (s.bind (passP w t n (59 : Int32).toInt)) f' fp' a' pl' kd' vl') (hz : z' = z + r) : ∀ p : Int, TKS w t n p pl a kd vl → IC w t n (itP w t n h o p) (z, st) (z', st) f' fp' a' pl' kd' vl' := by
  intro p hp0
  obtain ⟨g1, g2, -, -⟩ := TKS_kd hp0
  unfold itP
  rw [if_neg (fun y => by have y := g1.trans y; omega), if_pos (g1.symm.trans hk)]
  exact IC_seq ⟨hf, by rw [← g2]; exact ts hf⟩ hn hp (fun _ => by rw [rstp_stay, hz])
theorem IC_again {r : Int} {x' : Int × List (Int × Int)} (hk : kd = 258) (hf : f = 0) (ho : o < 4) (ts : f = 0 → TKS w t n a pl1 a1 kd1 vl1) (hn : ∀ s : Except (Int × Int) Int, CS w t n s f fp a1 pl1 kd1 vl1 → NS w t n (s.bind (numP w t n (1 : Int32).toInt (9 : Int32).toInt)) r f2 fp2 a2 pl2 kd2 vl2) (hp : ∀ s : Except (Int × Int) Int, CS w t n s f2 fp2 a2 pl2 kd2 vl2 → CS w t n (s.bind (passP w t n (40 : Int32).toInt)) f' fp' a' pl' kd' vl') (hx : f' = 0 → x' = rstp (z, st) (2, r)) : ∀ p : Int, TKS w t n p pl a kd vl → IC w t n (itP w t n h o p) (z, st) x' f' fp' a' pl' kd' vl' := by
  intro p hp0
  obtain ⟨g1, g2, -, -⟩ := TKS_kd hp0
  unfold itP
  rw [if_neg (fun y => by have y := g1.trans y; omega), if_neg (fun y => by have y := g1.trans y; omega), if_pos (g1.symm.trans hk), if_neg (by omega)]
  exact IC_seq ⟨hf, by rw [← g2]; exact ts hf⟩ hn hp hx
theorem IC_many {r lo hi c : Int} {x' : Int × List (Int × Int)} (hk : kd = 258) (ho : 4 ≤ o) (h3 : f1 = 3) (h4 : fp1 = pl) (hn : ∀ s : Except (Int × Int) Int, CS w t n s f1 fp1 a1 pl1 kd1 vl1 → NS w t n (s.bind (numP w t n lo hi)) r f2 fp2 a2 pl2 kd2 vl2) (hp : ∀ s : Except (Int × Int) Int, CS w t n s f2 fp2 a2 pl2 kd2 vl2 → CS w t n (s.bind (passP w t n c)) f' fp' a' pl' kd' vl') : ∀ p : Int, TKS w t n p pl a kd vl → IC w t n (itP w t n h o p) (z, st) x' f' fp' a' pl' kd' vl' := by
  intro p hp0
  obtain ⟨g1, -, g3, -⟩ := TKS_kd hp0
  unfold itP
  rw [if_neg (fun y => by have y := g1.trans y; omega), if_neg (fun y => by have y := g1.trans y; omega), if_pos (g1.symm.trans hk), if_pos ho, ← g3]
  exact hp (.error (3, pl)) (hn (.error (3, pl)) ⟨h3, h4, (show (3 : Int) ≠ 0 from by decide)⟩).1
theorem IC_end {x' : Int × List (Int × Int)} (hk : kd = 41) (hf : f = 0) (ho : 0 < o) (ts : f = 0 → TKS w t n a pl1 a1 kd1 vl1) (hx : x' = rstp (z, st) (3, 0)) : ∀ p : Int, TKS w t n p pl a kd vl → IC w t n (itP w t n h o p) (z, st) x' f fp a1 pl1 kd1 vl1 := by
  intro p hp0
  obtain ⟨g1, g2, -, -⟩ := TKS_kd hp0
  unfold itP
  rw [if_neg (fun y => by have y := g1.trans y; omega), if_neg (fun y => by have y := g1.trans y; omega), if_neg (fun y => by have y := g1.trans y; omega), if_pos ⟨g1.symm.trans hk, ho⟩]
  exact ⟨⟨hf, by rw [← g2]; exact ts hf⟩, hx⟩
theorem IC_no {x' : Int × List (Int × Int)} (h0 : kd ≠ 256) (h1 : kd ≠ 257) (h2 : kd ≠ 258) (h3 : ¬ (kd = 41 ∧ 0 < o)) (hf : f' = 1) (hfp : fp' = pl) : ∀ p : Int, TKS w t n p pl a kd vl → IC w t n (itP w t n h o p) (z, st) x' f' fp' a' pl' kd' vl' := by
  intro p hp0
  obtain ⟨g1, -, g3, -⟩ := TKS_kd hp0
  unfold itP
  rw [if_neg (fun y => h0 (g1.trans y)), if_neg (fun y => h1 (g1.trans y)), if_neg (fun y => h2 (g1.trans y)), if_neg (fun y => h3 ⟨g1.trans y.1, y.2⟩)]
  exact ⟨hf, hfp.trans g3, (show (1 : Int) ≠ 0 from by decide)⟩
end RWs
